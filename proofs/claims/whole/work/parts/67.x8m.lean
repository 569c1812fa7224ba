set_option maxRecDepth 100000 in
set_option maxHeartbeats 4000000 in
theorem c_X8_rainyDay (l : Launch) (E : Et) (k : Nat) (th : Nat) (tr : Nat) (wh : Int32) (g : Nat) (rr : Option Nat) (q : Nat → Nat) (z : Nat → Nat) (nb : Int32) (wa : Int32) (wd : Int64) (ev : Nat) (al : Int32) (wl : Int64) (cy : Nat → Nat) (kp : Nat) (nc : Nat) (cb : Nat → Nat) (mn : Nat → Int32) (ink : Nat → Nat) (t : Nat) (dd : Nat) (sd : Nat) (hcl : cy 5 ≤ 8) (hink : ∀ c, ink c ≤ 40) (hz : ∀ c, cy 5 ≤ c → ink c = 0) (hr : cy 2 ≤ 100) (hsd : sd < 65537) : Ct l E yX8_rainyDay cX8_rainyDay 2 none 1 0 0 [.ref k] [ob k 8 [.int (nI th), .int (nI tr), .int wh, .ref g, va_rf rr, .ref (q 5), .int (nI (z 6)), .int (nI (z 7)), .int (nI (z 8)), .int (nI (z 9)), .int (nI (z 10)), .int nb, .int (nI (z 12)), .int wa, .long wd, .ref (q 15), .ref (q 16), .ref (q 17), .ref (q 18), .int (nI (z 19)), .int (nI (z 20)), .ref (q 21), .long (lN ev), .ref (q 23), .ref (q 24), .int (nI (z 25)), .ref (q 26), .int al, .long wl, .int (nI sd)], ob g 7 [.int (nI (cy 0)), .int (nI (cy 1)), .int (nI (cy 2)), .int (nI (cy 3)), .int (nI (cy 4)), .int (nI (cy 5)), .int (nI (cy 6)), .int (nI (cy 7)), .int (nI kp), .int (nI nc), .ref (cb 0), .ref (cb 1), .ref (cb 2), .ref (cb 3), .ref (cb 4), .ref (cb 5), .ref (cb 6), .ref (cb 7), .ref (cb 8), .ref (cb 9), .ref (cb 10), .ref (cb 11)], aI E (q 16) 25 (xF mn ink t dd)] (wrV [ob k 8 [.int (nI th), .int (nI tr), .int wh, .ref g, va_rf rr, .ref (q 5), .int (nI (z 6)), .int (nI (z 7)), .int (nI (z 8)), .int (nI (z 9)), .int (nI (z 10)), .int nb, .int (nI (z 12)), .int wa, .long wd, .ref (q 15), .ref (q 16), .ref (q 17), .ref (q 18), .int (nI (z 19)), .int (nI (z 20)), .ref (q 21), .long (lN ev), .ref (q 23), .ref (q 24), .int (nI (z 25)), .ref (q 26), .int al, .long wl, .int (nI ((rainQ (cy 2) (ink, sd)).2))], ob g 7 [.int (nI (cy 0)), .int (nI (cy 1)), .int (nI (cy 2)), .int (nI (cy 3)), .int (nI (cy 4)), .int (nI (cy 5)), .int (nI (cy 6)), .int (nI (cy 7)), .int (nI kp), .int (nI nc), .ref (cb 0), .ref (cb 1), .ref (cb 2), .ref (cb 3), .ref (cb 4), .ref (cb 5), .ref (cb 6), .ref (cb 7), .ref (cb 8), .ref (cb 9), .ref (cb 10), .ref (cb 11)], aI E (q 16) 25 (xF mn (rainQ (cy 2) (ink, sd)).1 t (dd + 1))]) := by
  refine Ct.intro (by decide +kernel) (Nat.le_of_ble_eq_true rfl) (lv := [(0, .ref k)]) rfl ?_
  intro Z X Y
  refine v_aload_n X dX8_rainyDay_0 rfl 0 rfl ?_
  refine v_iconst X dX8_rainyDay_1 (v := nI 1) (by decide) ?_
  refine v_wrV1 X (rn_V X k_X8_days ml_X8_387 dX8_rainyDay_2 (c_X8_days l E k th tr wh g rr q (upN z 29 sd) nb wa wd ev al wl cy kp nc cb mn ink t dd 1 (by first | assumption | omega) (by first | assumption | omega) (by first | assumption | omega) (by first | assumption | omega)) rfl 0 rfl rfl (by decide) (by decide) (by omega) (by omega) (Nat.le_of_ble_eq_true rfl)) [0, 1, 2] rfl rfl (ws' := [ob k 8 [.int (nI th), .int (nI tr), .int wh, .ref g, va_rf rr, .ref (q 5), .int (nI (z 6)), .int (nI (z 7)), .int (nI (z 8)), .int (nI (z 9)), .int (nI (z 10)), .int nb, .int (nI (z 12)), .int wa, .long wd, .ref (q 15), .ref (q 16), .ref (q 17), .ref (q 18), .int (nI (z 19)), .int (nI (z 20)), .ref (q 21), .long (lN ev), .ref (q 23), .ref (q 24), .int (nI (z 25)), .ref (q 26), .int al, .long wl, .int (nI sd)], ob g 7 [.int (nI (cy 0)), .int (nI (cy 1)), .int (nI (cy 2)), .int (nI (cy 3)), .int (nI (cy 4)), .int (nI (cy 5)), .int (nI (cy 6)), .int (nI (cy 7)), .int (nI kp), .int (nI nc), .ref (cb 0), .ref (cb 1), .ref (cb 2), .ref (cb 3), .ref (cb 4), .ref (cb 5), .ref (cb 6), .ref (cb 7), .ref (cb 8), .ref (cb 9), .ref (cb 10), .ref (cb 11)], aI E (q 16) 25 (xF mn (fun c => ink c - 1) t (dd + 1))]) rfl rfl ?_
  refine v_iconst X dX8_rainyDay_5 (v := nI 0) (by decide) ?_
  refine v_istore_n X dX8_rainyDay_6 rfl (by decide) (lv' := [(1, .int (nI 0)), (0, .ref k)]) rfl ?_
  have L7 : ∀ (j7 : Nat) (vc : Nat) (vi : Nat → Nat) (vs : Nat), (vc ≤ cy 5 ∧ (vi, vs) = rainF (cy 2) vc (fun c => ink c - 1, sd)) → cy 5 - vc < j7 → V E Z 7 [(0, .ref k), (1, .int (nI vc))] [] [ob k 8 [.int (nI th), .int (nI tr), .int wh, .ref g, va_rf rr, .ref (q 5), .int (nI (z 6)), .int (nI (z 7)), .int (nI (z 8)), .int (nI (z 9)), .int (nI (z 10)), .int nb, .int (nI (z 12)), .int wa, .long wd, .ref (q 15), .ref (q 16), .ref (q 17), .ref (q 18), .int (nI (z 19)), .int (nI (z 20)), .ref (q 21), .long (lN ev), .ref (q 23), .ref (q 24), .int (nI (z 25)), .ref (q 26), .int al, .long wl, .int (nI vs)], ob g 7 [.int (nI (cy 0)), .int (nI (cy 1)), .int (nI (cy 2)), .int (nI (cy 3)), .int (nI (cy 4)), .int (nI (cy 5)), .int (nI (cy 6)), .int (nI (cy 7)), .int (nI kp), .int (nI nc), .ref (cb 0), .ref (cb 1), .ref (cb 2), .ref (cb 3), .ref (cb 4), .ref (cb 5), .ref (cb 6), .ref (cb 7), .ref (cb 8), .ref (cb 9), .ref (cb 10), .ref (cb 11)], aI E (q 16) 25 (xF mn vi t (dd + 1))] 0 0 := by
    intro j7
    induction j7 with
    | zero => intro vc vi vs hI hM; exact absurd hM (Nat.not_lt_zero _)
    | succ j7 ih7 =>
      intro vc vi vs hI7 hM7
      obtain ⟨hc, hb⟩ := id hI7
      refine v_iload_n X dX8_rainyDay_7 rfl 1 rfl ?_
      refine v_aload_n X dX8_rainyDay_8 rfl 0 rfl ?_
      refine v_get X kcX8 fl_X8_306 dX8_rainyDay_9 0 rfl rfl ?_
      refine v_getN X kcX7 fl_X8_240 dX8_rainyDay_12 1 rfl rfl ?_
      refine v_icmpN_ge X dX8_rainyDay_15 (tgt := 88) (by decide) (by omega) (by omega) (fun h15 => ?_) (fun h15 => ?_)
      · obtain rfl : vc = cy 5 := by omega
        rw [rainQ_k hcl hz] at hb
        obtain rfl : vi = (rainQ (cy 2) (ink, sd)).1 := congrArg Prod.fst hb
        obtain rfl : vs = (rainQ (cy 2) (ink, sd)).2 := congrArg Prod.snd hb
        exact v_vret X Y dX8_rainyDay_88 (wrV_of rfl) (by omega) (by omega)
      · have hvi : ∀ c, vi c ≤ 40 := by (have e9 : vi = _ := congrArg Prod.fst hb); rw [e9]; exact rainF_le (fun c => Nat.le_trans (Nat.sub_le _ _) (hink c)) vc
        have hvs : vs < 65537 := by (have e9 : vs = _ := congrArg Prod.snd hb); rw [e9]; exact rainF_lt (x := (fun c => ink c - 1, sd)) hsd vc
        refine v_aload_n X dX8_rainyDay_18 rfl 0 rfl ?_
        refine v_get X kcX8 fl_X8_21 dX8_rainyDay_19 0 rfl rfl ?_
        refine v_bipush X dX8_rainyDay_22 (v := nI 8) (by decide) ?_
        refine v_iload_n X dX8_rainyDay_24 rfl 1 rfl ?_
        refine v_iadd X dX8_rainyDay_25 ?_
        refine v_eqi (x' := nI (8 + vc)) (nI_add _ _) ?_
        refine v_iald X dX8_rainyDay_26 2 rfl (by omega) (by decide) ?_
        refine v_eqi (x' := nI (vi vc)) (xF_i (by omega)) ?_
        refine v_ifN_ne X dX8_rainyDay_27 (tgt := 33) (by decide) (Nat.lt_of_le_of_lt (hvi _) (by decide)) (fun h27 => ?_) (fun h27 => ?_)
        · refine v_aload_n X dX8_rainyDay_33 rfl 0 rfl ?_
          refine v_ldc2 X dX8_rainyDay_34 cs_X8_452 ?_
          refine v_eql (x' := lN 75) rfl ?_
          refine v_aload_n X dX8_rainyDay_37 rfl 0 rfl ?_
          refine v_get X kcX8 fl_X8_454 dX8_rainyDay_38 0 rfl rfl ?_
          refine v_i2l X dX8_rainyDay_41 (v := lN vs) (nI_l (by omega)) ?_
          refine v_lmul X dX8_rainyDay_42 ?_
          refine v_eql (x' := lN (75 * vs)) (lN_mul _ _) ?_
          refine v_ldc2 X dX8_rainyDay_43 cs_X8_457 ?_
          refine v_eql (x' := lN 74) rfl ?_
          refine v_ladd X dX8_rainyDay_46 ?_
          refine v_eql (x' := lN ((75 * vs) + 74)) (lN_add _ _) ?_
          refine v_ldc2 X dX8_rainyDay_47 cs_X8_459 ?_
          refine v_eql (x' := lN 65537) rfl ?_
          refine v_lrem X dX8_rainyDay_50 (by decide) ?_
          refine v_eql (x' := lN ((75 * vs + 74) % 65537)) (lN_rem (by omega) (by decide) (by decide)) ?_
          refine v_l2i X dX8_rainyDay_51 (v := nI ((75 * vs + 74) % 65537)) (lN_i _) ?_
          refine v_put X kcX8 fl_X8_454 dX8_rainyDay_52 0 rfl (ws' := [ob k 8 [.int (nI th), .int (nI tr), .int wh, .ref g, va_rf rr, .ref (q 5), .int (nI (z 6)), .int (nI (z 7)), .int (nI (z 8)), .int (nI (z 9)), .int (nI (z 10)), .int nb, .int (nI (z 12)), .int wa, .long wd, .ref (q 15), .ref (q 16), .ref (q 17), .ref (q 18), .int (nI (z 19)), .int (nI (z 20)), .ref (q 21), .long (lN ev), .ref (q 23), .ref (q 24), .int (nI (z 25)), .ref (q 26), .int al, .long wl, .int (nI ((75 * vs + 74) % 65537))], ob g 7 [.int (nI (cy 0)), .int (nI (cy 1)), .int (nI (cy 2)), .int (nI (cy 3)), .int (nI (cy 4)), .int (nI (cy 5)), .int (nI (cy 6)), .int (nI (cy 7)), .int (nI kp), .int (nI nc), .ref (cb 0), .ref (cb 1), .ref (cb 2), .ref (cb 3), .ref (cb 4), .ref (cb 5), .ref (cb 6), .ref (cb 7), .ref (cb 8), .ref (cb 9), .ref (cb 10), .ref (cb 11)], aI E (q 16) 25 (xF mn vi t (dd + 1))]) rfl rfl ?_
          refine v_aload_n X dX8_rainyDay_55 rfl 0 rfl ?_
          refine v_get X kcX8 fl_X8_454 dX8_rainyDay_56 0 rfl rfl ?_
          refine v_bipush X dX8_rainyDay_59 (v := nI 100) (by decide) ?_
          refine v_irem X dX8_rainyDay_61 (by decide) ?_
          refine v_eqi (x' := nI (((75 * vs + 74) % 65537) % 100)) (pk_rem (by omega) (by omega) (by omega)) ?_
          refine v_aload_n X dX8_rainyDay_62 rfl 0 rfl ?_
          refine v_get X kcX8 fl_X8_306 dX8_rainyDay_63 0 rfl rfl ?_
          refine v_getN X kcX7 fl_X8_215 dX8_rainyDay_66 1 rfl rfl ?_
          refine v_icmpN_ge X dX8_rainyDay_69 (tgt := 82) (by decide) (by omega) (by omega) (fun h69 => ?_) (fun h69 => ?_)
          · refine v_iinc X dX8_rainyDay_82 1 rfl (v := nI (vc + 1)) (nI_inc vc) (by decide) (lv' := [(1, .int (nI (vc + 1))), (0, .ref k)]) rfl ?_
            refine v_goto X dX8_rainyDay_85 (tgt := 7) (by decide) ?_
            refine V.lvs [1, 0] rfl ?_
            exact ih7 (vc + 1) vi ((75 * vs + 74) % 65537) (⟨by omega, by rw [rainF_dry (by rw [← hb]; show ¬ vi vc ≤ 0; omega) (by rw [← hb]; exact h69), ← hb]; rfl⟩) (by omega)
          · refine v_aload_n X dX8_rainyDay_72 rfl 0 rfl ?_
            refine v_get X kcX8 fl_X8_21 dX8_rainyDay_73 0 rfl rfl ?_
            refine v_bipush X dX8_rainyDay_76 (v := nI 8) (by decide) ?_
            refine v_iload_n X dX8_rainyDay_78 rfl 1 rfl ?_
            refine v_iadd X dX8_rainyDay_79 ?_
            refine v_eqi (x' := nI (8 + vc)) (nI_add _ _) ?_
            refine v_iconst X dX8_rainyDay_80 (v := nI 0) (by decide) ?_
            refine v_iast X dX8_rainyDay_81 2 rfl (by omega) (by decide) (ws' := [ob k 8 [.int (nI th), .int (nI tr), .int wh, .ref g, va_rf rr, .ref (q 5), .int (nI (z 6)), .int (nI (z 7)), .int (nI (z 8)), .int (nI (z 9)), .int (nI (z 10)), .int nb, .int (nI (z 12)), .int wa, .long wd, .ref (q 15), .ref (q 16), .ref (q 17), .ref (q 18), .int (nI (z 19)), .int (nI (z 20)), .ref (q 21), .long (lN ev), .ref (q 23), .ref (q 24), .int (nI (z 25)), .ref (q 26), .int al, .long wl, .int (nI ((75 * vs + 74) % 65537))], ob g 7 [.int (nI (cy 0)), .int (nI (cy 1)), .int (nI (cy 2)), .int (nI (cy 3)), .int (nI (cy 4)), .int (nI (cy 5)), .int (nI (cy 6)), .int (nI (cy 7)), .int (nI kp), .int (nI nc), .ref (cb 0), .ref (cb 1), .ref (cb 2), .ref (cb 3), .ref (cb 4), .ref (cb 5), .ref (cb 6), .ref (cb 7), .ref (cb 8), .ref (cb 9), .ref (cb 10), .ref (cb 11)], aI E (q 16) 25 (upd (xF mn vi t (dd + 1)) (8 + vc) (nI 0))]) rfl ?_
            refine V.arI 2 rfl (g' := xF mn (upN vi vc 0) t (dd + 1)) (fun j _ => by rw [xF_upI (by omega)]) (ws' := [ob k 8 [.int (nI th), .int (nI tr), .int wh, .ref g, va_rf rr, .ref (q 5), .int (nI (z 6)), .int (nI (z 7)), .int (nI (z 8)), .int (nI (z 9)), .int (nI (z 10)), .int nb, .int (nI (z 12)), .int wa, .long wd, .ref (q 15), .ref (q 16), .ref (q 17), .ref (q 18), .int (nI (z 19)), .int (nI (z 20)), .ref (q 21), .long (lN ev), .ref (q 23), .ref (q 24), .int (nI (z 25)), .ref (q 26), .int al, .long wl, .int (nI ((75 * vs + 74) % 65537))], ob g 7 [.int (nI (cy 0)), .int (nI (cy 1)), .int (nI (cy 2)), .int (nI (cy 3)), .int (nI (cy 4)), .int (nI (cy 5)), .int (nI (cy 6)), .int (nI (cy 7)), .int (nI kp), .int (nI nc), .ref (cb 0), .ref (cb 1), .ref (cb 2), .ref (cb 3), .ref (cb 4), .ref (cb 5), .ref (cb 6), .ref (cb 7), .ref (cb 8), .ref (cb 9), .ref (cb 10), .ref (cb 11)], aI E (q 16) 25 (xF mn (upN vi vc 0) t (dd + 1))]) rfl ?_
            refine v_iinc X dX8_rainyDay_82 1 rfl (v := nI (vc + 1)) (nI_inc vc) (by decide) (lv' := [(1, .int (nI (vc + 1))), (0, .ref k)]) rfl ?_
            refine v_goto X dX8_rainyDay_85 (tgt := 7) (by decide) ?_
            refine V.lvs [1, 0] rfl ?_
            exact ih7 (vc + 1) (upN vi vc 0) ((75 * vs + 74) % 65537) (⟨by omega, by rw [rainF_wet (by rw [← hb]; show ¬ vi vc ≤ 0; omega) (by rw [← hb]; exact h69), ← hb]; rfl⟩) (by omega)
        · refine v_goto X dX8_rainyDay_30 (tgt := 82) (by decide) ?_
          refine v_iinc X dX8_rainyDay_82 1 rfl (v := nI (vc + 1)) (nI_inc vc) (by decide) (lv' := [(1, .int (nI (vc + 1))), (0, .ref k)]) rfl ?_
          refine v_goto X dX8_rainyDay_85 (tgt := 7) (by decide) ?_
          refine V.lvs [1, 0] rfl ?_
          exact ih7 (vc + 1) vi vs (⟨by omega, by rw [rainF_no (by rw [← hb]; exact Nat.le_of_eq h27), ← hb]⟩) (by omega)
  refine V.lvs [1, 0] rfl ?_
  exact L7 _ 0 (fun c => ink c - 1) sd (⟨by omega, rfl⟩) (Nat.lt_succ_self _)
set_option maxRecDepth 100000 in
set_option maxHeartbeats 4000000 in
theorem c_X8_refusesSeed (l : Launch) (E : Et) (k : Nat) (th : Nat) (tr : Nat) (wh : Int32) (g : Nat) (rr : Option Nat) (q : Nat → Nat) (z : Nat → Nat) (nb : Int32) (wa : Int32) (wd : Int64) (ev : Nat) (al : Int32) (wl : Int64) (b : Bool) (sd : Int32) (n : Int32)  : Ct l E yX8_refusesSeed cX8_refusesSeed 4 (some .int) 1 0 0 [.ref k, .int (nI (b).toNat), .int sd, .int n] [ob k 8 [.int (nI th), .int (nI tr), .int wh, .ref g, va_rf rr, .ref (q 5), .int (nI (z 6)), .int (nI (z 7)), .int (nI (z 8)), .int (nI (z 9)), .int (nI (z 10)), .int nb, .int (nI (z 12)), .int wa, .long wd, .ref (q 15), .ref (q 16), .ref (q 17), .ref (q 18), .int (nI (z 19)), .int (nI (z 20)), .ref (q 21), .long (lN ev), .ref (q 23), .ref (q 24), .int (nI (z 25)), .ref (q 26), .int al, .long wl, .int (nI (z 29))]] (roI [ob k 8 [.int (nI th), .int (nI tr), .int wh, .ref g, va_rf rr, .ref (q 5), .int (nI (z 6)), .int (nI (z 7)), .int (nI (z 8)), .int (nI (z 9)), .int (nI (z 10)), .int nb, .int (nI (z 12)), .int wa, .long wd, .ref (q 15), .ref (q 16), .ref (q 17), .ref (q 18), .int (nI (z 19)), .int (nI (z 20)), .ref (q 21), .long (lN ev), .ref (q 23), .ref (q 24), .int (nI (z 25)), .ref (q 26), .int al, .long wl, .int (nI (z 29))]] (nI (if b then (if (nI 0 ≤ sd ∧ sd ≤ nI 65536) ∧ (nI 0 ≤ n ∧ n ≤ nI 60) then 0 else 2) else 1))) := by
  refine Ct.intro (by decide +kernel) (Nat.le_of_ble_eq_true rfl) (lv := [(0, .ref k), (1, .int (nI (b).toNat)), (2, .int sd), (3, .int n)]) rfl ?_
  intro Z X Y
  refine v_iload_n X dX8_refusesSeed_0 rfl 1 rfl ?_
  refine v_ifB_ne X dX8_refusesSeed_1 (tgt := 8) (by decide) (fun h1 => ?_) (fun h1 => ?_)
  · refine v_iload_n X dX8_refusesSeed_8 rfl 2 rfl ?_
    refine v_iconst X dX8_refusesSeed_9 (v := nI 0) (by decide) ?_
    refine v_ldcw X dX8_refusesSeed_10 cs_X8_461 ?_
    refine v_eqi (x' := nI 65536) rfl ?_
    refine v_roI1 X (rn_S X k_X8_in ml_X8_126 dX8_refusesSeed_13 (c_X8_in l E sd (nI 0) (nI 65536) ) rfl (by decide) (by decide) (by omega) (by omega) (Nat.le_of_ble_eq_true rfl)) [] rfl rfl ?_
    refine v_ifB_eq X dX8_refusesSeed_16 (tgt := 33) (by decide) (fun h16 => ?_) (fun h16 => ?_)
    · refine v_iconst X dX8_refusesSeed_33 (v := nI 2) (by decide) ?_
      exact v_iret X Y dX8_refusesSeed_34 (roI_of (by rw [h1, if_pos rfl, if_neg (fun q => of_decide_eq_false h16 q.1)])) (by omega) (by omega)
    · refine v_iload_n X dX8_refusesSeed_19 rfl 3 rfl ?_
      refine v_iconst X dX8_refusesSeed_20 (v := nI 0) (by decide) ?_
      refine v_bipush X dX8_refusesSeed_21 (v := nI 60) (by decide) ?_
      refine v_roI1 X (rn_S X k_X8_in ml_X8_126 dX8_refusesSeed_23 (c_X8_in l E n (nI 0) (nI 60) ) rfl (by decide) (by decide) (by omega) (by omega) (Nat.le_of_ble_eq_true rfl)) [] rfl rfl ?_
      refine v_ifB_eq X dX8_refusesSeed_26 (tgt := 33) (by decide) (fun h26 => ?_) (fun h26 => ?_)
      · refine v_iconst X dX8_refusesSeed_33 (v := nI 2) (by decide) ?_
        exact v_iret X Y dX8_refusesSeed_34 (roI_of (by rw [h1, if_pos rfl, if_neg (fun q => of_decide_eq_false h26 q.2)])) (by omega) (by omega)
      · refine v_iconst X dX8_refusesSeed_29 (v := nI 0) (by decide) ?_
        refine v_goto X dX8_refusesSeed_30 (tgt := 34) (by decide) ?_
        exact v_iret X Y dX8_refusesSeed_34 (roI_of (by rw [h1, if_pos rfl, if_pos ⟨of_decide_eq_true h16, of_decide_eq_true h26⟩])) (by omega) (by omega)
  · refine v_iconst X dX8_refusesSeed_4 (v := nI 1) (by decide) ?_
    refine v_goto X dX8_refusesSeed_5 (tgt := 34) (by decide) ?_
    exact v_iret X Y dX8_refusesSeed_34 (roI_of (by rw [h1]; rfl)) (by omega) (by omega)
set_option maxRecDepth 100000 in
set_option maxHeartbeats 4000000 in
theorem c_X8_refusesSeed_n (l : Launch) (E : Et) (k : Nat) (th : Nat) (tr : Nat) (wh : Int32) (rr : Option Nat) (q : Nat → Nat) (z : Nat → Nat) (nb : Int32) (wa : Int32) (wd : Int64) (ev : Nat) (al : Int32) (wl : Int64) (sd : Int32) (n : Int32)  : Ct l E yX8_refusesSeed cX8_refusesSeed 4 (some .int) 1 0 0 [.ref k, .int (nI 0), .int sd, .int n] [ob k 8 [.int (nI th), .int (nI tr), .int wh, .null, va_rf rr, .ref (q 5), .int (nI (z 6)), .int (nI (z 7)), .int (nI (z 8)), .int (nI (z 9)), .int (nI (z 10)), .int nb, .int (nI (z 12)), .int wa, .long wd, .ref (q 15), .ref (q 16), .ref (q 17), .ref (q 18), .int (nI (z 19)), .int (nI (z 20)), .ref (q 21), .long (lN ev), .ref (q 23), .ref (q 24), .int (nI (z 25)), .ref (q 26), .int al, .long wl, .int (nI (z 29))]] (roI [ob k 8 [.int (nI th), .int (nI tr), .int wh, .null, va_rf rr, .ref (q 5), .int (nI (z 6)), .int (nI (z 7)), .int (nI (z 8)), .int (nI (z 9)), .int (nI (z 10)), .int nb, .int (nI (z 12)), .int wa, .long wd, .ref (q 15), .ref (q 16), .ref (q 17), .ref (q 18), .int (nI (z 19)), .int (nI (z 20)), .ref (q 21), .long (lN ev), .ref (q 23), .ref (q 24), .int (nI (z 25)), .ref (q 26), .int al, .long wl, .int (nI (z 29))]] (nI 1)) := by
  refine Ct.intro (by decide +kernel) (Nat.le_of_ble_eq_true rfl) (lv := [(0, .ref k), (1, .int (nI 0)), (2, .int sd), (3, .int n)]) rfl ?_
  intro Z X Y
  refine v_iload_n X dX8_refusesSeed_0 rfl 1 rfl ?_
  refine v_ifN_ne X dX8_refusesSeed_1 (tgt := 8) (by decide) (by decide) (fun h1 => ?_) (fun h1 => ?_)
  · exfalso; omega
  · refine v_iconst X dX8_refusesSeed_4 (v := nI 1) (by decide) ?_
    refine v_goto X dX8_refusesSeed_5 (tgt := 34) (by decide) ?_
    exact v_iret X Y dX8_refusesSeed_34 (roI_of rfl) (by omega) (by omega)
set_option maxRecDepth 100000 in
set_option maxHeartbeats 4000000 in
theorem c_X8_merchant (l : Launch) (E : Et) (ch : Nat) (s : Bool) (r : Bool)  : Ct l E yX8_merchant cX8_merchant 3 (some .int) 0 0 0 [.int (nI ch), .int (nI (s).toNat), .int (nI (r).toNat)] [] (roI [] (gainI ch s r false)) := by
  refine Ct.intro (by decide +kernel) (Nat.le_of_ble_eq_true rfl) (lv := [(0, .int (nI ch)), (1, .int (nI (s).toNat)), (2, .int (nI (r).toNat))]) rfl ?_
  intro Z X Y
  refine v_iload_n X dX8_merchant_0 rfl 1 rfl ?_
  refine v_ifB_eq X dX8_merchant_1 (tgt := 17) (by decide) (fun h1 => ?_) (fun h1 => ?_)
  · refine v_iload_n X dX8_merchant_17 rfl 2 rfl ?_
    refine v_ifB_eq X dX8_merchant_18 (tgt := 25) (by decide) (fun h18 => ?_) (fun h18 => ?_)
    · refine v_iconst X dX8_merchant_25 (v := nI 2) (by decide) ?_
      exact v_iret X Y dX8_merchant_26 (roI_of (by simp_all [gainI]; try rfl)) (by omega) (by omega)
    · refine v_iconst X dX8_merchant_21 (v := nI 1) (by decide) ?_
      refine v_goto X dX8_merchant_22 (tgt := 26) (by decide) ?_
      exact v_iret X Y dX8_merchant_26 (roI_of (by simp_all [gainI]; try rfl)) (by omega) (by omega)
  · refine v_iload_n X dX8_merchant_4 rfl 2 rfl ?_
    refine v_ifB_eq X dX8_merchant_5 (tgt := 13) (by decide) (fun h5 => ?_) (fun h5 => ?_)
    · refine v_iconst X dX8_merchant_13 (v := nI 4) (by decide) ?_
      refine v_goto X dX8_merchant_14 (tgt := 26) (by decide) ?_
      exact v_iret X Y dX8_merchant_26 (roI_of (by simp_all [gainI]; try rfl)) (by omega) (by omega)
    · refine v_iload_n X dX8_merchant_8 rfl 0 rfl ?_
      refine v_ineg X dX8_merchant_9 ?_
      refine v_goto X dX8_merchant_10 (tgt := 26) (by decide) ?_
      exact v_iret X Y dX8_merchant_26 (roI_of (by simp_all [gainI]; try rfl)) (by omega) (by omega)
set_option maxRecDepth 100000 in
set_option maxHeartbeats 4000000 in
theorem c_X8_written (l : Launch) (E : Et) (s : Bool) (r : Bool)  : Ct l E yX8_written cX8_written 2 (some .int) 0 0 0 [.int (nI (s).toNat), .int (nI (r).toNat)] [] (roI [] (gainI 0 s r true)) := by
  refine Ct.intro (by decide +kernel) (Nat.le_of_ble_eq_true rfl) (lv := [(0, .int (nI (s).toNat)), (1, .int (nI (r).toNat))]) rfl ?_
  intro Z X Y
  refine v_iload_n X dX8_written_0 rfl 0 rfl ?_
  refine v_ifB_eq X dX8_written_1 (tgt := 16) (by decide) (fun h1 => ?_) (fun h1 => ?_)
  · refine v_iload_n X dX8_written_16 rfl 1 rfl ?_
    refine v_ifB_eq X dX8_written_17 (tgt := 24) (by decide) (fun h17 => ?_) (fun h17 => ?_)
    · refine v_iconst X dX8_written_24 (v := nI 2) (by decide) ?_
      exact v_iret X Y dX8_written_25 (roI_of (by simp_all [gainI]; try rfl)) (by omega) (by omega)
    · refine v_iconst X dX8_written_20 (v := nI 1) (by decide) ?_
      refine v_goto X dX8_written_21 (tgt := 25) (by decide) ?_
      exact v_iret X Y dX8_written_25 (roI_of (by simp_all [gainI]; try rfl)) (by omega) (by omega)
  · refine v_iload_n X dX8_written_4 rfl 1 rfl ?_
    refine v_ifB_eq X dX8_written_5 (tgt := 12) (by decide) (fun h5 => ?_) (fun h5 => ?_)
    · refine v_iconst X dX8_written_12 (v := nI 0) (by decide) ?_
      refine v_goto X dX8_written_13 (tgt := 25) (by decide) ?_
      exact v_iret X Y dX8_written_25 (roI_of (by simp_all [gainI]; try rfl)) (by omega) (by omega)
    · refine v_iconst X dX8_written_8 (v := nI 3) (by decide) ?_
      refine v_goto X dX8_written_9 (tgt := 25) (by decide) ?_
      exact v_iret X Y dX8_written_25 (roI_of (by simp_all [gainI]; try rfl)) (by omega) (by omega)
set_option maxRecDepth 100000 in
set_option maxHeartbeats 4000000 in
theorem c_X8_refusesChain (l : Launch) (E : Et) (k : Nat) (th : Nat) (tr : Nat) (wh : Int32) (g : Nat) (rr : Option Nat) (q : Nat → Nat) (z : Nat → Nat) (nb : Int32) (wa : Int32) (wd : Int64) (ev : Nat) (al : Int32) (wl : Int64) (ch : Int32)  : Ct l E yX8_refusesChain cX8_refusesChain 2 (some .int) 1 0 0 [.ref k, .int ch] [ob k 8 [.int (nI th), .int (nI tr), .int wh, .ref g, va_rf rr, .ref (q 5), .int (nI (z 6)), .int (nI (z 7)), .int (nI (z 8)), .int (nI (z 9)), .int (nI (z 10)), .int nb, .int (nI (z 12)), .int wa, .long wd, .ref (q 15), .ref (q 16), .ref (q 17), .ref (q 18), .int (nI (z 19)), .int (nI (z 20)), .ref (q 21), .long (lN ev), .ref (q 23), .ref (q 24), .int (nI (z 25)), .ref (q 26), .int al, .long wl, .int (nI (z 29))]] (roI [ob k 8 [.int (nI th), .int (nI tr), .int wh, .ref g, va_rf rr, .ref (q 5), .int (nI (z 6)), .int (nI (z 7)), .int (nI (z 8)), .int (nI (z 9)), .int (nI (z 10)), .int nb, .int (nI (z 12)), .int wa, .long wd, .ref (q 15), .ref (q 16), .ref (q 17), .ref (q 18), .int (nI (z 19)), .int (nI (z 20)), .ref (q 21), .long (lN ev), .ref (q 23), .ref (q 24), .int (nI (z 25)), .ref (q 26), .int al, .long wl, .int (nI (z 29))]] (nI (if nI 0 ≤ ch ∧ ch ≤ nI 9 then 0 else 2))) := by
  refine Ct.intro (by decide +kernel) (Nat.le_of_ble_eq_true rfl) (lv := [(0, .ref k), (1, .int ch)]) rfl ?_
  intro Z X Y
  refine v_aload_n X dX8_refusesChain_0 rfl 0 rfl ?_
  refine v_get X kcX8 fl_X8_306 dX8_refusesChain_1 0 rfl rfl ?_
  refine v_ifnonnull X dX8_refusesChain_4 (tgt := 11) (by decide) ?_
  refine v_iload_n X dX8_refusesChain_11 rfl 1 rfl ?_
  refine v_iconst X dX8_refusesChain_12 (v := nI 0) (by decide) ?_
  refine v_bipush X dX8_refusesChain_13 (v := nI 9) (by decide) ?_
  refine v_roI1 X (rn_S X k_X8_in ml_X8_126 dX8_refusesChain_15 (c_X8_in l E ch (nI 0) (nI 9) ) rfl (by decide) (by decide) (by omega) (by omega) (Nat.le_of_ble_eq_true rfl)) [] rfl rfl ?_
  refine v_ifB_eq X dX8_refusesChain_18 (tgt := 25) (by decide) (fun h18 => ?_) (fun h18 => ?_)
  · refine v_iconst X dX8_refusesChain_25 (v := nI 2) (by decide) ?_
    exact v_iret X Y dX8_refusesChain_26 (roI_of (by rw [if_neg (of_decide_eq_false h18)])) (by omega) (by omega)
  · refine v_iconst X dX8_refusesChain_21 (v := nI 0) (by decide) ?_
    refine v_goto X dX8_refusesChain_22 (tgt := 26) (by decide) ?_
    exact v_iret X Y dX8_refusesChain_26 (roI_of (by rw [if_pos (of_decide_eq_true h18)])) (by omega) (by omega)
set_option maxRecDepth 100000 in
set_option maxHeartbeats 4000000 in
theorem c_X8_refusesChain_n (l : Launch) (E : Et) (k : Nat) (th : Nat) (tr : Nat) (wh : Int32) (rr : Option Nat) (q : Nat → Nat) (z : Nat → Nat) (nb : Int32) (wa : Int32) (wd : Int64) (ev : Nat) (al : Int32) (wl : Int64) (ch : Int32)  : Ct l E yX8_refusesChain cX8_refusesChain 2 (some .int) 1 0 0 [.ref k, .int ch] [ob k 8 [.int (nI th), .int (nI tr), .int wh, .null, va_rf rr, .ref (q 5), .int (nI (z 6)), .int (nI (z 7)), .int (nI (z 8)), .int (nI (z 9)), .int (nI (z 10)), .int nb, .int (nI (z 12)), .int wa, .long wd, .ref (q 15), .ref (q 16), .ref (q 17), .ref (q 18), .int (nI (z 19)), .int (nI (z 20)), .ref (q 21), .long (lN ev), .ref (q 23), .ref (q 24), .int (nI (z 25)), .ref (q 26), .int al, .long wl, .int (nI (z 29))]] (roI [ob k 8 [.int (nI th), .int (nI tr), .int wh, .null, va_rf rr, .ref (q 5), .int (nI (z 6)), .int (nI (z 7)), .int (nI (z 8)), .int (nI (z 9)), .int (nI (z 10)), .int nb, .int (nI (z 12)), .int wa, .long wd, .ref (q 15), .ref (q 16), .ref (q 17), .ref (q 18), .int (nI (z 19)), .int (nI (z 20)), .ref (q 21), .long (lN ev), .ref (q 23), .ref (q 24), .int (nI (z 25)), .ref (q 26), .int al, .long wl, .int (nI (z 29))]] (nI 1)) := by
  refine Ct.intro (by decide +kernel) (Nat.le_of_ble_eq_true rfl) (lv := [(0, .ref k), (1, .int ch)]) rfl ?_
  intro Z X Y
  refine v_aload_n X dX8_refusesChain_0 rfl 0 rfl ?_
  refine v_get X kcX8 fl_X8_306 dX8_refusesChain_1 0 rfl rfl ?_
  refine v_ifnonnullN X dX8_refusesChain_4 ?_
  refine v_iconst X dX8_refusesChain_7 (v := nI 1) (by decide) ?_
  refine v_goto X dX8_refusesChain_8 (tgt := 26) (by decide) ?_
  exact v_iret X Y dX8_refusesChain_26 (roI_of rfl) (by omega) (by omega)
set_option maxRecDepth 100000 in
set_option maxHeartbeats 4000000 in
theorem c_X8_isRest (l : Launch) (E : Et) (ch : Nat) (pa : Nat) (hpa : pa < 4) : Ct l E yX8_isRest cX8_isRest 4 (some .boolean) 1 0 0 [.int (nI ch), .int (nI pa)] [] (roI [] (nI (isRestB ch pa).toNat)) := by
  refine Ct.intro (by decide +kernel) (Nat.le_of_ble_eq_true rfl) (lv := [(0, .int (nI ch)), (1, .int (nI pa))]) rfl ?_
  intro Z X Y
  refine v_iload_n X dX8_isRest_0 rfl 1 rfl ?_
  refine v_iconst X dX8_isRest_1 (v := nI 1) (by decide) ?_
  refine v_icmpN_le X dX8_isRest_2 (tgt := 9) (by decide) (by omega) (by decide) (fun h2 => ?_) (fun h2 => ?_)
  · refine v_iconst X dX8_isRest_9 (v := nI 0) (by decide) ?_
    refine v_istore_n X dX8_isRest_10 rfl (by decide) (lv' := [(2, .int (nI 0)), (0, .int (nI ch)), (1, .int (nI pa))]) rfl ?_
    refine v_iload_n X dX8_isRest_11 rfl 2 rfl ?_
    refine v_iconst X dX8_isRest_12 (v := nI 2) (by decide) ?_
    refine v_irem X dX8_isRest_13 (by decide) ?_
    refine v_eqi (x' := nI (pa % 2)) (pk_rem (by omega) (by omega) (by omega)) ?_
    refine v_iconst X dX8_isRest_14 (v := nI 1) (by decide) ?_
    refine v_icmpN_ne X dX8_isRest_15 (tgt := 22) (by decide) (by omega) (by decide) (fun h15 => ?_) (fun h15 => ?_)
    · refine v_iconst X dX8_isRest_22 (v := nI 0) (by decide) ?_
      refine v_istore_n X dX8_isRest_23 rfl (by decide) (lv' := [(3, .int (nI 0)), (2, .int (nI 0)), (0, .int (nI ch)), (1, .int (nI pa))]) rfl ?_
      refine v_iload_n X dX8_isRest_24 rfl 2 rfl ?_
      refine v_iload_n X dX8_isRest_25 rfl 1 rfl ?_
      refine v_ifN_ne X dX8_isRest_26 (tgt := 33) (by decide) (by decide) (fun h26 => ?_) (fun h26 => ?_)
      · exfalso; omega
      · refine v_iconst X dX8_isRest_29 (v := nI 1) (by decide) ?_
        refine v_goto X dX8_isRest_30 (tgt := 34) (by decide) ?_
        refine v_iload_n X dX8_isRest_34 rfl 0 rfl ?_
        refine v_roI1 X (rn_S X k_X8_merchant ml_X8_432 dX8_isRest_35 (c_X8_merchant l E ch true false ) rfl (by decide) (by decide) (by omega) (by omega) (Nat.le_of_ble_eq_true rfl)) [] rfl rfl ?_
        refine v_iload_n X dX8_isRest_38 rfl 2 rfl ?_
        refine v_iload_n X dX8_isRest_39 rfl 1 rfl ?_
        refine v_iload_n X dX8_isRest_40 rfl 0 rfl ?_
        refine v_roI1 X (rn_S X k_X8_merchant ml_X8_432 dX8_isRest_41 (c_X8_merchant l E ch false false ) rfl (by decide) (by decide) (by omega) (by omega) (Nat.le_of_ble_eq_true rfl)) [] rfl rfl ?_
        refine v_icmp_gt X dX8_isRest_44 (tgt := 72) (by decide) (fun h44 => ?_) (fun h44 => ?_)
        · refine v_iconst X dX8_isRest_72 (v := nI 0) (by decide) ?_
          exact v_zret X Y dX8_isRest_73 (by decide) (roI_of (by rw [isRestB, decide_eq_false (show ¬ 2 ≤ pa by omega), decide_eq_false (show ¬ ¬ pa &&& 1 = 0 by rw [Nat.and_one_is_mod]; omega)]; exact bo0 (Bool.and_eq_false_iff.mpr (Or.inl (decide_eq_false (Int32.not_le.mpr h44)))))) (by omega) (by omega)
        · refine v_iload_n X dX8_isRest_47 rfl 1 rfl ?_
          refine v_iload_n X dX8_isRest_48 rfl 0 rfl ?_
          refine v_ifN_ne X dX8_isRest_49 (tgt := 56) (by decide) (by decide) (fun h49 => ?_) (fun h49 => ?_)
          · exfalso; omega
          · refine v_iconst X dX8_isRest_52 (v := nI 1) (by decide) ?_
            refine v_goto X dX8_isRest_53 (tgt := 57) (by decide) ?_
            refine v_roI1 X (rn_S X k_X8_written ml_X8_428 dX8_isRest_57 (c_X8_written l E false true ) rfl (by decide) (by decide) (by omega) (by omega) (Nat.le_of_ble_eq_true rfl)) [] rfl rfl ?_
            refine v_iload_n X dX8_isRest_60 rfl 1 rfl ?_
            refine v_iload_n X dX8_isRest_61 rfl 0 rfl ?_
            refine v_roI1 X (rn_S X k_X8_written ml_X8_428 dX8_isRest_62 (c_X8_written l E false false ) rfl (by decide) (by decide) (by omega) (by omega) (Nat.le_of_ble_eq_true rfl)) [] rfl rfl ?_
            refine v_icmp_gt X dX8_isRest_65 (tgt := 72) (by decide) (fun h65 => ?_) (fun h65 => ?_)
            · refine v_iconst X dX8_isRest_72 (v := nI 0) (by decide) ?_
              exact v_zret X Y dX8_isRest_73 (by decide) (roI_of (by rw [gain_o ch, gain_o ch] at h65; rw [isRestB, decide_eq_false (show ¬ 2 ≤ pa by omega), decide_eq_false (show ¬ ¬ pa &&& 1 = 0 by rw [Nat.and_one_is_mod]; omega)]; exact bo0 (Bool.and_eq_false_iff.mpr (Or.inr (decide_eq_false (Int32.not_le.mpr h65)))))) (by omega) (by omega)
            · refine v_iconst X dX8_isRest_68 (v := nI 1) (by decide) ?_
              refine v_goto X dX8_isRest_69 (tgt := 73) (by decide) ?_
              exact v_zret X Y dX8_isRest_73 (by decide) (roI_of (by rw [gain_o ch, gain_o ch] at h65; rw [isRestB, decide_eq_false (show ¬ 2 ≤ pa by omega), decide_eq_false (show ¬ ¬ pa &&& 1 = 0 by rw [Nat.and_one_is_mod]; omega)]; exact bo1 (Bool.and_eq_true_iff.mpr ⟨decide_eq_true (Int32.not_lt.mp h44), decide_eq_true (Int32.not_lt.mp h65)⟩))) (by omega) (by omega)
    · refine v_iconst X dX8_isRest_18 (v := nI 1) (by decide) ?_
      refine v_goto X dX8_isRest_19 (tgt := 23) (by decide) ?_
      refine v_istore_n X dX8_isRest_23 rfl (by decide) (lv' := [(3, .int (nI 1)), (2, .int (nI 0)), (0, .int (nI ch)), (1, .int (nI pa))]) rfl ?_
      refine v_iload_n X dX8_isRest_24 rfl 2 rfl ?_
      refine v_iload_n X dX8_isRest_25 rfl 1 rfl ?_
      refine v_ifN_ne X dX8_isRest_26 (tgt := 33) (by decide) (by decide) (fun h26 => ?_) (fun h26 => ?_)
      · exfalso; omega
      · refine v_iconst X dX8_isRest_29 (v := nI 1) (by decide) ?_
        refine v_goto X dX8_isRest_30 (tgt := 34) (by decide) ?_
        refine v_iload_n X dX8_isRest_34 rfl 0 rfl ?_
        refine v_roI1 X (rn_S X k_X8_merchant ml_X8_432 dX8_isRest_35 (c_X8_merchant l E ch true true ) rfl (by decide) (by decide) (by omega) (by omega) (Nat.le_of_ble_eq_true rfl)) [] rfl rfl ?_
        refine v_iload_n X dX8_isRest_38 rfl 2 rfl ?_
        refine v_iload_n X dX8_isRest_39 rfl 1 rfl ?_
        refine v_iload_n X dX8_isRest_40 rfl 0 rfl ?_
        refine v_roI1 X (rn_S X k_X8_merchant ml_X8_432 dX8_isRest_41 (c_X8_merchant l E ch false true ) rfl (by decide) (by decide) (by omega) (by omega) (Nat.le_of_ble_eq_true rfl)) [] rfl rfl ?_
        refine v_icmp_gt X dX8_isRest_44 (tgt := 72) (by decide) (fun h44 => ?_) (fun h44 => ?_)
        · refine v_iconst X dX8_isRest_72 (v := nI 0) (by decide) ?_
          exact v_zret X Y dX8_isRest_73 (by decide) (roI_of (by rw [isRestB, decide_eq_false (show ¬ 2 ≤ pa by omega), decide_eq_true (show ¬ pa &&& 1 = 0 by rw [Nat.and_one_is_mod]; omega)]; exact bo0 (Bool.and_eq_false_iff.mpr (Or.inl (decide_eq_false (Int32.not_le.mpr h44)))))) (by omega) (by omega)
        · refine v_iload_n X dX8_isRest_47 rfl 1 rfl ?_
          refine v_iload_n X dX8_isRest_48 rfl 0 rfl ?_
          refine v_ifN_ne X dX8_isRest_49 (tgt := 56) (by decide) (by decide) (fun h49 => ?_) (fun h49 => ?_)
          · refine v_iconst X dX8_isRest_56 (v := nI 0) (by decide) ?_
            refine v_roI1 X (rn_S X k_X8_written ml_X8_428 dX8_isRest_57 (c_X8_written l E false false ) rfl (by decide) (by decide) (by omega) (by omega) (Nat.le_of_ble_eq_true rfl)) [] rfl rfl ?_
            refine v_iload_n X dX8_isRest_60 rfl 1 rfl ?_
            refine v_iload_n X dX8_isRest_61 rfl 0 rfl ?_
            refine v_roI1 X (rn_S X k_X8_written ml_X8_428 dX8_isRest_62 (c_X8_written l E false true ) rfl (by decide) (by decide) (by omega) (by omega) (Nat.le_of_ble_eq_true rfl)) [] rfl rfl ?_
            refine v_icmp_gt X dX8_isRest_65 (tgt := 72) (by decide) (fun h65 => ?_) (fun h65 => ?_)
            · refine v_iconst X dX8_isRest_72 (v := nI 0) (by decide) ?_
              exact v_zret X Y dX8_isRest_73 (by decide) (roI_of (by rw [gain_o ch, gain_o ch] at h65; rw [isRestB, decide_eq_false (show ¬ 2 ≤ pa by omega), decide_eq_true (show ¬ pa &&& 1 = 0 by rw [Nat.and_one_is_mod]; omega)]; exact bo0 (Bool.and_eq_false_iff.mpr (Or.inr (decide_eq_false (Int32.not_le.mpr h65)))))) (by omega) (by omega)
            · refine v_iconst X dX8_isRest_68 (v := nI 1) (by decide) ?_
              refine v_goto X dX8_isRest_69 (tgt := 73) (by decide) ?_
              exact v_zret X Y dX8_isRest_73 (by decide) (roI_of (by rw [gain_o ch, gain_o ch] at h65; rw [isRestB, decide_eq_false (show ¬ 2 ≤ pa by omega), decide_eq_true (show ¬ pa &&& 1 = 0 by rw [Nat.and_one_is_mod]; omega)]; exact bo1 (Bool.and_eq_true_iff.mpr ⟨decide_eq_true (Int32.not_lt.mp h44), decide_eq_true (Int32.not_lt.mp h65)⟩))) (by omega) (by omega)
          · exfalso; omega
  · refine v_iconst X dX8_isRest_5 (v := nI 1) (by decide) ?_
    refine v_goto X dX8_isRest_6 (tgt := 10) (by decide) ?_
    refine v_istore_n X dX8_isRest_10 rfl (by decide) (lv' := [(2, .int (nI 1)), (0, .int (nI ch)), (1, .int (nI pa))]) rfl ?_
    refine v_iload_n X dX8_isRest_11 rfl 2 rfl ?_
    refine v_iconst X dX8_isRest_12 (v := nI 2) (by decide) ?_
    refine v_irem X dX8_isRest_13 (by decide) ?_
    refine v_eqi (x' := nI (pa % 2)) (pk_rem (by omega) (by omega) (by omega)) ?_
    refine v_iconst X dX8_isRest_14 (v := nI 1) (by decide) ?_
    refine v_icmpN_ne X dX8_isRest_15 (tgt := 22) (by decide) (by omega) (by decide) (fun h15 => ?_) (fun h15 => ?_)
    · refine v_iconst X dX8_isRest_22 (v := nI 0) (by decide) ?_
      refine v_istore_n X dX8_isRest_23 rfl (by decide) (lv' := [(3, .int (nI 0)), (2, .int (nI 1)), (0, .int (nI ch)), (1, .int (nI pa))]) rfl ?_
      refine v_iload_n X dX8_isRest_24 rfl 2 rfl ?_
      refine v_iload_n X dX8_isRest_25 rfl 1 rfl ?_
      refine v_ifN_ne X dX8_isRest_26 (tgt := 33) (by decide) (by decide) (fun h26 => ?_) (fun h26 => ?_)
      · refine v_iconst X dX8_isRest_33 (v := nI 0) (by decide) ?_
        refine v_iload_n X dX8_isRest_34 rfl 0 rfl ?_
        refine v_roI1 X (rn_S X k_X8_merchant ml_X8_432 dX8_isRest_35 (c_X8_merchant l E ch false false ) rfl (by decide) (by decide) (by omega) (by omega) (Nat.le_of_ble_eq_true rfl)) [] rfl rfl ?_
        refine v_iload_n X dX8_isRest_38 rfl 2 rfl ?_
        refine v_iload_n X dX8_isRest_39 rfl 1 rfl ?_
        refine v_iload_n X dX8_isRest_40 rfl 0 rfl ?_
        refine v_roI1 X (rn_S X k_X8_merchant ml_X8_432 dX8_isRest_41 (c_X8_merchant l E ch true false ) rfl (by decide) (by decide) (by omega) (by omega) (Nat.le_of_ble_eq_true rfl)) [] rfl rfl ?_
        refine v_icmp_gt X dX8_isRest_44 (tgt := 72) (by decide) (fun h44 => ?_) (fun h44 => ?_)
        · refine v_iconst X dX8_isRest_72 (v := nI 0) (by decide) ?_
          exact v_zret X Y dX8_isRest_73 (by decide) (roI_of (by rw [isRestB, decide_eq_true (show 2 ≤ pa by omega), decide_eq_false (show ¬ ¬ pa &&& 1 = 0 by rw [Nat.and_one_is_mod]; omega)]; exact bo0 (Bool.and_eq_false_iff.mpr (Or.inl (decide_eq_false (Int32.not_le.mpr h44)))))) (by omega) (by omega)
        · refine v_iload_n X dX8_isRest_47 rfl 1 rfl ?_
          refine v_iload_n X dX8_isRest_48 rfl 0 rfl ?_
          refine v_ifN_ne X dX8_isRest_49 (tgt := 56) (by decide) (by decide) (fun h49 => ?_) (fun h49 => ?_)
          · exfalso; omega
          · refine v_iconst X dX8_isRest_52 (v := nI 1) (by decide) ?_
            refine v_goto X dX8_isRest_53 (tgt := 57) (by decide) ?_
            refine v_roI1 X (rn_S X k_X8_written ml_X8_428 dX8_isRest_57 (c_X8_written l E true true ) rfl (by decide) (by decide) (by omega) (by omega) (Nat.le_of_ble_eq_true rfl)) [] rfl rfl ?_
            refine v_iload_n X dX8_isRest_60 rfl 1 rfl ?_
            refine v_iload_n X dX8_isRest_61 rfl 0 rfl ?_
            refine v_roI1 X (rn_S X k_X8_written ml_X8_428 dX8_isRest_62 (c_X8_written l E true false ) rfl (by decide) (by decide) (by omega) (by omega) (Nat.le_of_ble_eq_true rfl)) [] rfl rfl ?_
            refine v_icmp_gt X dX8_isRest_65 (tgt := 72) (by decide) (fun h65 => ?_) (fun h65 => ?_)
            · refine v_iconst X dX8_isRest_72 (v := nI 0) (by decide) ?_
              exact v_zret X Y dX8_isRest_73 (by decide) (roI_of (by rw [gain_o ch, gain_o ch] at h65; rw [isRestB, decide_eq_true (show 2 ≤ pa by omega), decide_eq_false (show ¬ ¬ pa &&& 1 = 0 by rw [Nat.and_one_is_mod]; omega)]; exact bo0 (Bool.and_eq_false_iff.mpr (Or.inr (decide_eq_false (Int32.not_le.mpr h65)))))) (by omega) (by omega)
            · refine v_iconst X dX8_isRest_68 (v := nI 1) (by decide) ?_
              refine v_goto X dX8_isRest_69 (tgt := 73) (by decide) ?_
              exact v_zret X Y dX8_isRest_73 (by decide) (roI_of (by rw [gain_o ch, gain_o ch] at h65; rw [isRestB, decide_eq_true (show 2 ≤ pa by omega), decide_eq_false (show ¬ ¬ pa &&& 1 = 0 by rw [Nat.and_one_is_mod]; omega)]; exact bo1 (Bool.and_eq_true_iff.mpr ⟨decide_eq_true (Int32.not_lt.mp h44), decide_eq_true (Int32.not_lt.mp h65)⟩))) (by omega) (by omega)
      · exfalso; omega
    · refine v_iconst X dX8_isRest_18 (v := nI 1) (by decide) ?_
      refine v_goto X dX8_isRest_19 (tgt := 23) (by decide) ?_
      refine v_istore_n X dX8_isRest_23 rfl (by decide) (lv' := [(3, .int (nI 1)), (2, .int (nI 1)), (0, .int (nI ch)), (1, .int (nI pa))]) rfl ?_
      refine v_iload_n X dX8_isRest_24 rfl 2 rfl ?_
      refine v_iload_n X dX8_isRest_25 rfl 1 rfl ?_
      refine v_ifN_ne X dX8_isRest_26 (tgt := 33) (by decide) (by decide) (fun h26 => ?_) (fun h26 => ?_)
      · refine v_iconst X dX8_isRest_33 (v := nI 0) (by decide) ?_
        refine v_iload_n X dX8_isRest_34 rfl 0 rfl ?_
        refine v_roI1 X (rn_S X k_X8_merchant ml_X8_432 dX8_isRest_35 (c_X8_merchant l E ch false true ) rfl (by decide) (by decide) (by omega) (by omega) (Nat.le_of_ble_eq_true rfl)) [] rfl rfl ?_
        refine v_iload_n X dX8_isRest_38 rfl 2 rfl ?_
        refine v_iload_n X dX8_isRest_39 rfl 1 rfl ?_
        refine v_iload_n X dX8_isRest_40 rfl 0 rfl ?_
        refine v_roI1 X (rn_S X k_X8_merchant ml_X8_432 dX8_isRest_41 (c_X8_merchant l E ch true true ) rfl (by decide) (by decide) (by omega) (by omega) (Nat.le_of_ble_eq_true rfl)) [] rfl rfl ?_
        refine v_icmp_gt X dX8_isRest_44 (tgt := 72) (by decide) (fun h44 => ?_) (fun h44 => ?_)
        · refine v_iconst X dX8_isRest_72 (v := nI 0) (by decide) ?_
          exact v_zret X Y dX8_isRest_73 (by decide) (roI_of (by rw [isRestB, decide_eq_true (show 2 ≤ pa by omega), decide_eq_true (show ¬ pa &&& 1 = 0 by rw [Nat.and_one_is_mod]; omega)]; exact bo0 (Bool.and_eq_false_iff.mpr (Or.inl (decide_eq_false (Int32.not_le.mpr h44)))))) (by omega) (by omega)
        · refine v_iload_n X dX8_isRest_47 rfl 1 rfl ?_
          refine v_iload_n X dX8_isRest_48 rfl 0 rfl ?_
          refine v_ifN_ne X dX8_isRest_49 (tgt := 56) (by decide) (by decide) (fun h49 => ?_) (fun h49 => ?_)
          · refine v_iconst X dX8_isRest_56 (v := nI 0) (by decide) ?_
            refine v_roI1 X (rn_S X k_X8_written ml_X8_428 dX8_isRest_57 (c_X8_written l E true false ) rfl (by decide) (by decide) (by omega) (by omega) (Nat.le_of_ble_eq_true rfl)) [] rfl rfl ?_
            refine v_iload_n X dX8_isRest_60 rfl 1 rfl ?_
            refine v_iload_n X dX8_isRest_61 rfl 0 rfl ?_
            refine v_roI1 X (rn_S X k_X8_written ml_X8_428 dX8_isRest_62 (c_X8_written l E true true ) rfl (by decide) (by decide) (by omega) (by omega) (Nat.le_of_ble_eq_true rfl)) [] rfl rfl ?_
            refine v_icmp_gt X dX8_isRest_65 (tgt := 72) (by decide) (fun h65 => ?_) (fun h65 => ?_)
            · refine v_iconst X dX8_isRest_72 (v := nI 0) (by decide) ?_
              exact v_zret X Y dX8_isRest_73 (by decide) (roI_of (by rw [gain_o ch, gain_o ch] at h65; rw [isRestB, decide_eq_true (show 2 ≤ pa by omega), decide_eq_true (show ¬ pa &&& 1 = 0 by rw [Nat.and_one_is_mod]; omega)]; exact bo0 (Bool.and_eq_false_iff.mpr (Or.inr (decide_eq_false (Int32.not_le.mpr h65)))))) (by omega) (by omega)
            · refine v_iconst X dX8_isRest_68 (v := nI 1) (by decide) ?_
              refine v_goto X dX8_isRest_69 (tgt := 73) (by decide) ?_
              exact v_zret X Y dX8_isRest_73 (by decide) (roI_of (by rw [gain_o ch, gain_o ch] at h65; rw [isRestB, decide_eq_true (show 2 ≤ pa by omega), decide_eq_true (show ¬ pa &&& 1 = 0 by rw [Nat.and_one_is_mod]; omega)]; exact bo1 (Bool.and_eq_true_iff.mpr ⟨decide_eq_true (Int32.not_lt.mp h44), decide_eq_true (Int32.not_lt.mp h65)⟩))) (by omega) (by omega)
          · exfalso; omega
      · exfalso; omega
set_option maxRecDepth 100000 in
set_option maxHeartbeats 4000000 in
theorem c_X8_rained (l : Launch) (E : Et) (k : Nat) (th : Nat) (tr : Nat) (wh : Int32) (g : Nat) (rr : Option Nat) (q : Nat → Nat) (z : Nat → Nat) (nb : Int32) (wa : Int32) (wd : Int64) (ev : Nat) (al : Int32) (wl : Int64) (cy : Nat → Nat) (kp : Nat) (nc : Nat) (cb : Nat → Nat) (xf : Nat → Int32) (mn : Nat → Int32) (ink : Nat → Nat) (t : Nat) (dd : Nat) (s0 : Nat) (sd : Nat) (n : Nat) (hcl : cy 5 ≤ 8) (hink : ∀ c, ink c ≤ 40) (hz : ∀ c, cy 5 ≤ c → ink c = 0) (hr : cy 2 ≤ 100) (hsd : sd < 65537) (hn : n ≤ 60) : Ct l E yX8_rained cX8_rained 5 (some .int) 5 0 0 [.ref k, .int (nI sd), .int (nI n)] [ob k 8 [.int (nI th), .int (nI tr), .int wh, .ref g, va_rf rr, .ref (q 5), .int (nI (z 6)), .int (nI (z 7)), .int (nI (z 8)), .int (nI (z 9)), .int (nI (z 10)), .int nb, .int (nI (z 12)), .int wa, .long wd, .ref (q 15), .ref (q 16), .ref (q 17), .ref (q 18), .int (nI (z 19)), .int (nI (z 20)), .ref (q 21), .long (lN ev), .ref (q 23), .ref (q 24), .int (nI (z 25)), .ref (q 26), .int al, .long wl, .int (nI s0)], ob g 7 [.int (nI (cy 0)), .int (nI (cy 1)), .int (nI (cy 2)), .int (nI (cy 3)), .int (nI (cy 4)), .int (nI (cy 5)), .int (nI (cy 6)), .int (nI (cy 7)), .int (nI kp), .int (nI nc), .ref (cb 0), .ref (cb 1), .ref (cb 2), .ref (cb 3), .ref (cb 4), .ref (cb 5), .ref (cb 6), .ref (cb 7), .ref (cb 8), .ref (cb 9), .ref (cb 10), .ref (cb 11)], aI E (q 15) 25 (xF mn ink t dd), aI E (q 16) 25 xf] (wrI [ob k 8 [.int (nI 0), .int (nI 0), .int (-1), .ref g, va_rf rr, .ref (q 5), .int (nI (z 6)), .int (nI (z 7)), .int (nI (z 8)), .int (nI (z 9)), .int (nI (z 10)), .int nb, .int (nI (z 12)), .int wa, .long wd, .ref (q 15), .ref (q 16), .ref (q 17), .ref (q 18), .int (nI (z 19)), .int (nI (z 20)), .ref (q 21), .long (lN ev), .ref (q 23), .ref (q 24), .int (nI (z 25)), .ref (q 26), .int al, .long wl, .int (nI ((rainIt (cy 2) n (ink, sd)).2))], ob g 7 [.int (nI (cy 0)), .int (nI (cy 1)), .int (nI (cy 2)), .int (nI (cy 3)), .int (nI (cy 4)), .int (nI (cy 5)), .int (nI (cy 6)), .int (nI (cy 7)), .int (nI kp), .int (nI nc), .ref (cb 0), .ref (cb 1), .ref (cb 2), .ref (cb 3), .ref (cb 4), .ref (cb 5), .ref (cb 6), .ref (cb 7), .ref (cb 8), .ref (cb 9), .ref (cb 10), .ref (cb 11)], aI E (q 15) 25 (xF mn ink t dd), aI E (q 16) 25 (xF mn (rainIt (cy 2) n (ink, sd)).1 t (dd + n))] (nI (bindB (rainIt (cy 2) n (ink, sd)).1))) := by
  refine Ct.intro (by decide +kernel) (Nat.le_of_ble_eq_true rfl) (lv := [(0, .ref k), (1, .int (nI sd)), (2, .int (nI n))]) rfl ?_
  intro Z X Y
  have hw0 : (if true then (if (nI 0 ≤ nI sd ∧ nI sd ≤ nI 65536) ∧ (nI 0 ≤ nI n ∧ nI n ≤ nI 60) then 0 else 2) else 1) = 0 := by rw [if_pos rfl, if_pos ⟨⟨(nI_leI (by decide) (by omega)).mpr (Nat.zero_le sd), (nI_leI (by omega) (by decide)).mpr (by omega)⟩, (nI_leI (by decide) (by omega)).mpr (Nat.zero_le n), (nI_leI (by omega) (by decide)).mpr (by omega)⟩]
  refine v_aload_n X dX8_rained_0 rfl 0 rfl ?_
  refine v_iconst X dX8_rained_1 (v := nI 0) (by decide) ?_
  refine v_put X kcX8 fl_X8_43 dX8_rained_2 0 rfl (ws' := [ob k 8 [.int (nI 0), .int (nI tr), .int wh, .ref g, va_rf rr, .ref (q 5), .int (nI (z 6)), .int (nI (z 7)), .int (nI (z 8)), .int (nI (z 9)), .int (nI (z 10)), .int nb, .int (nI (z 12)), .int wa, .long wd, .ref (q 15), .ref (q 16), .ref (q 17), .ref (q 18), .int (nI (z 19)), .int (nI (z 20)), .ref (q 21), .long (lN ev), .ref (q 23), .ref (q 24), .int (nI (z 25)), .ref (q 26), .int al, .long wl, .int (nI s0)], ob g 7 [.int (nI (cy 0)), .int (nI (cy 1)), .int (nI (cy 2)), .int (nI (cy 3)), .int (nI (cy 4)), .int (nI (cy 5)), .int (nI (cy 6)), .int (nI (cy 7)), .int (nI kp), .int (nI nc), .ref (cb 0), .ref (cb 1), .ref (cb 2), .ref (cb 3), .ref (cb 4), .ref (cb 5), .ref (cb 6), .ref (cb 7), .ref (cb 8), .ref (cb 9), .ref (cb 10), .ref (cb 11)], aI E (q 15) 25 (xF mn ink t dd), aI E (q 16) 25 xf]) rfl rfl ?_
  refine v_aload_n X dX8_rained_5 rfl 0 rfl ?_
  refine v_aload_n X dX8_rained_6 rfl 0 rfl ?_
  refine v_get X kcX8 fl_X8_306 dX8_rained_7 0 rfl rfl ?_
  refine v_ifnull X dX8_rained_10 ?_
  refine v_iconst X dX8_rained_13 (v := nI 1) (by decide) ?_
  refine v_goto X dX8_rained_14 (tgt := 18) (by decide) ?_
  refine v_iload_n X dX8_rained_18 rfl 1 rfl ?_
  refine v_iload_n X dX8_rained_19 rfl 2 rfl ?_
  refine v_roI1 X (rn_V X k_X8_refusesSeed ml_X8_462 dX8_rained_20 (c_X8_refusesSeed l E k 0 tr wh g rr q (upN z 29 s0) nb wa wd ev al wl true (nI sd) (nI n) ) rfl 0 rfl rfl (by decide) (by decide) (by omega) (by omega) (Nat.le_of_ble_eq_true rfl)) [0] rfl rfl ?_
  refine v_istore_n X dX8_rained_23 rfl (by decide) (lv' := [(3, .int (nI (if true then (if (nI 0 ≤ (nI sd) ∧ (nI sd) ≤ nI 65536) ∧ (nI 0 ≤ (nI n) ∧ (nI n) ≤ nI 60) then 0 else 2) else 1))), (0, .ref k), (1, .int (nI sd)), (2, .int (nI n))]) rfl ?_
  refine v_iload_n X dX8_rained_24 rfl 0 rfl ?_
  refine v_ifN_le X dX8_rained_25 (tgt := 34) (by decide) (by rw [hw0]; decide) (fun h25 => ?_) (fun h25 => ?_)
  · refine v_aload_n X dX8_rained_34 rfl 1 rfl ?_
    refine v_wrV1 X (rn_V X k_X8_works ml_X8_326 dX8_rained_35 (c_X8_works l E k 0 tr wh g rr q (upN z 29 s0) nb wa wd ev al wl xf (xF mn ink t dd) ) rfl 0 rfl rfl (by decide) (by decide) (by omega) (by omega) (Nat.le_of_ble_eq_true rfl)) [0, 2, 3] rfl rfl (ws' := [ob k 8 [.int (nI 0), .int (nI tr), .int wh, .ref g, va_rf rr, .ref (q 5), .int (nI (z 6)), .int (nI (z 7)), .int (nI (z 8)), .int (nI (z 9)), .int (nI (z 10)), .int nb, .int (nI (z 12)), .int wa, .long wd, .ref (q 15), .ref (q 16), .ref (q 17), .ref (q 18), .int (nI (z 19)), .int (nI (z 20)), .ref (q 21), .long (lN ev), .ref (q 23), .ref (q 24), .int (nI (z 25)), .ref (q 26), .int al, .long wl, .int (nI s0)], ob g 7 [.int (nI (cy 0)), .int (nI (cy 1)), .int (nI (cy 2)), .int (nI (cy 3)), .int (nI (cy 4)), .int (nI (cy 5)), .int (nI (cy 6)), .int (nI (cy 7)), .int (nI kp), .int (nI nc), .ref (cb 0), .ref (cb 1), .ref (cb 2), .ref (cb 3), .ref (cb 4), .ref (cb 5), .ref (cb 6), .ref (cb 7), .ref (cb 8), .ref (cb 9), .ref (cb 10), .ref (cb 11)], aI E (q 15) 25 (xF mn ink t dd), aI E (q 16) 25 (xF mn ink t dd)]) rfl rfl ?_
    refine v_aload_n X dX8_rained_38 rfl 1 rfl ?_
    refine v_iload_n X dX8_rained_39 rfl 2 rfl ?_
    refine v_put X kcX8 fl_X8_454 dX8_rained_40 0 rfl (ws' := [ob k 8 [.int (nI 0), .int (nI tr), .int wh, .ref g, va_rf rr, .ref (q 5), .int (nI (z 6)), .int (nI (z 7)), .int (nI (z 8)), .int (nI (z 9)), .int (nI (z 10)), .int nb, .int (nI (z 12)), .int wa, .long wd, .ref (q 15), .ref (q 16), .ref (q 17), .ref (q 18), .int (nI (z 19)), .int (nI (z 20)), .ref (q 21), .long (lN ev), .ref (q 23), .ref (q 24), .int (nI (z 25)), .ref (q 26), .int al, .long wl, .int (nI sd)], ob g 7 [.int (nI (cy 0)), .int (nI (cy 1)), .int (nI (cy 2)), .int (nI (cy 3)), .int (nI (cy 4)), .int (nI (cy 5)), .int (nI (cy 6)), .int (nI (cy 7)), .int (nI kp), .int (nI nc), .ref (cb 0), .ref (cb 1), .ref (cb 2), .ref (cb 3), .ref (cb 4), .ref (cb 5), .ref (cb 6), .ref (cb 7), .ref (cb 8), .ref (cb 9), .ref (cb 10), .ref (cb 11)], aI E (q 15) 25 (xF mn ink t dd), aI E (q 16) 25 (xF mn ink t dd)]) rfl rfl ?_
    refine v_iconst X dX8_rained_43 (v := nI 0) (by decide) ?_
    refine v_istore X dX8_rained_44 (by decide) (lv' := [(4, .int (nI 0)), (3, .int (nI (if true then (if (nI 0 ≤ (nI sd) ∧ (nI sd) ≤ nI 65536) ∧ (nI 0 ≤ (nI n) ∧ (nI n) ≤ nI 60) then 0 else 2) else 1))), (0, .ref k), (1, .int (nI sd)), (2, .int (nI n))]) rfl ?_
    have L46 : ∀ (j46 : Nat) (vi : Nat) (vg : Nat → Nat) (vs : Nat), (vi ≤ n ∧ (vg, vs) = rainIt (cy 2) vi (ink, sd)) → n - vi < j46 → V E Z 46 [(0, .ref k), (1, .int (nI sd)), (2, .int (nI n)), (4, .int (nI vi))] [] [ob k 8 [.int (nI 0), .int (nI tr), .int wh, .ref g, va_rf rr, .ref (q 5), .int (nI (z 6)), .int (nI (z 7)), .int (nI (z 8)), .int (nI (z 9)), .int (nI (z 10)), .int nb, .int (nI (z 12)), .int wa, .long wd, .ref (q 15), .ref (q 16), .ref (q 17), .ref (q 18), .int (nI (z 19)), .int (nI (z 20)), .ref (q 21), .long (lN ev), .ref (q 23), .ref (q 24), .int (nI (z 25)), .ref (q 26), .int al, .long wl, .int (nI vs)], ob g 7 [.int (nI (cy 0)), .int (nI (cy 1)), .int (nI (cy 2)), .int (nI (cy 3)), .int (nI (cy 4)), .int (nI (cy 5)), .int (nI (cy 6)), .int (nI (cy 7)), .int (nI kp), .int (nI nc), .ref (cb 0), .ref (cb 1), .ref (cb 2), .ref (cb 3), .ref (cb 4), .ref (cb 5), .ref (cb 6), .ref (cb 7), .ref (cb 8), .ref (cb 9), .ref (cb 10), .ref (cb 11)], aI E (q 15) 25 (xF mn ink t dd), aI E (q 16) 25 (xF mn vg t (dd + vi))] 0 0 := by
      intro j46
      induction j46 with
      | zero => intro vi vg vs hI hM; exact absurd hM (Nat.not_lt_zero _)
      | succ j46 ih46 =>
        intro vi vg vs hI46 hM46
        obtain ⟨hc, hb⟩ := id hI46
        refine v_iload X dX8_rained_46 3 rfl ?_
        refine v_iload_n X dX8_rained_48 rfl 2 rfl ?_
        refine v_icmpN_ge X dX8_rained_49 (tgt := 62) (by decide) (by omega) (by omega) (fun h49 => ?_) (fun h49 => ?_)
        · obtain rfl : vi = n := by omega
          have hvg : ∀ c, vg c ≤ 40 := by (have e9 : vg = _ := congrArg Prod.fst hb); rw [e9]; exact rainIt_le hink vi
          have hvs : vs < 65537 := by (have e9 : vs = _ := congrArg Prod.snd hb); rw [e9]; exact rainIt_lt (x := (ink, sd)) hsd vi
          have hvz : ∀ c, cy 5 ≤ c → vg c = 0 := by (have e9 : vg = _ := congrArg Prod.fst hb); rw [e9]; exact rainIt_z (x := (ink, sd)) hz vi
          obtain rfl : vg = (rainIt (cy 2) vi (ink, sd)).1 := congrArg Prod.fst hb
          obtain rfl : vs = (rainIt (cy 2) vi (ink, sd)).2 := congrArg Prod.snd hb
          refine v_aload_n X dX8_rained_62 rfl 0 rfl ?_
          refine v_aload_n X dX8_rained_63 rfl 0 rfl ?_
          refine v_roI1 X (rn_V X k_X8_bindingAll ml_X8_378 dX8_rained_64 (c_X8_bindingAll l E k 0 tr wh g rr q (upN z 29 ((rainIt (cy 2) vi (ink, sd)).2)) nb wa wd ev al wl cy kp nc cb mn ((rainIt (cy 2) vi (ink, sd)).1) t (dd + vi) (by first | assumption | omega) (hvg) (hvz)) rfl 0 rfl rfl (by decide) (by decide) (by omega) (by omega) (Nat.le_of_ble_eq_true rfl)) [0, 1, 3] rfl rfl ?_
          refine v_wrI1 X (rn_V X k_X8_good ml_X8_53 dX8_rained_67 (c_X8_good l E k 0 tr wh g rr q (upN z 29 ((rainIt (cy 2) vi (ink, sd)).2)) nb wa wd ev al wl (nI (bbits (fun cx => decide (0 < ((rainIt (cy 2) vi (ink, sd)).1) cx)) 8)) ) rfl 0 rfl rfl (by decide) (by decide) (by omega) (by omega) (Nat.le_of_ble_eq_true rfl)) [0] rfl rfl (ws' := [ob k 8 [.int (nI 0), .int (nI 0), .int (-1), .ref g, va_rf rr, .ref (q 5), .int (nI (z 6)), .int (nI (z 7)), .int (nI (z 8)), .int (nI (z 9)), .int (nI (z 10)), .int nb, .int (nI (z 12)), .int wa, .long wd, .ref (q 15), .ref (q 16), .ref (q 17), .ref (q 18), .int (nI (z 19)), .int (nI (z 20)), .ref (q 21), .long (lN ev), .ref (q 23), .ref (q 24), .int (nI (z 25)), .ref (q 26), .int al, .long wl, .int (nI ((rainIt (cy 2) vi (ink, sd)).2))], ob g 7 [.int (nI (cy 0)), .int (nI (cy 1)), .int (nI (cy 2)), .int (nI (cy 3)), .int (nI (cy 4)), .int (nI (cy 5)), .int (nI (cy 6)), .int (nI (cy 7)), .int (nI kp), .int (nI nc), .ref (cb 0), .ref (cb 1), .ref (cb 2), .ref (cb 3), .ref (cb 4), .ref (cb 5), .ref (cb 6), .ref (cb 7), .ref (cb 8), .ref (cb 9), .ref (cb 10), .ref (cb 11)], aI E (q 15) 25 (xF mn ink t dd), aI E (q 16) 25 (xF mn (rainIt (cy 2) vi (ink, sd)).1 t (dd + vi))]) rfl rfl ?_
          exact v_iret X Y dX8_rained_70 (wrI_of rfl (rfl)) (by omega) (by omega)
        · have hvg : ∀ c, vg c ≤ 40 := by (have e9 : vg = _ := congrArg Prod.fst hb); rw [e9]; exact rainIt_le hink vi
          have hvs : vs < 65537 := by (have e9 : vs = _ := congrArg Prod.snd hb); rw [e9]; exact rainIt_lt (x := (ink, sd)) hsd vi
          have hvz : ∀ c, cy 5 ≤ c → vg c = 0 := by (have e9 : vg = _ := congrArg Prod.fst hb); rw [e9]; exact rainIt_z (x := (ink, sd)) hz vi
          refine v_aload_n X dX8_rained_52 rfl 0 rfl ?_
          refine v_wrV1 X (rn_V X k_X8_rainyDay ml_X8_466 dX8_rained_53 (c_X8_rainyDay l E k 0 tr wh g rr q z nb wa wd ev al wl cy kp nc cb mn vg t (dd + vi) vs (by first | assumption | omega) (hvg) (hvz) (by first | assumption | omega) (hvs)) rfl 0 rfl rfl (by decide) (by decide) (by omega) (by omega) (Nat.le_of_ble_eq_true rfl)) [0, 1, 3] rfl rfl (ws' := [ob k 8 [.int (nI 0), .int (nI tr), .int wh, .ref g, va_rf rr, .ref (q 5), .int (nI (z 6)), .int (nI (z 7)), .int (nI (z 8)), .int (nI (z 9)), .int (nI (z 10)), .int nb, .int (nI (z 12)), .int wa, .long wd, .ref (q 15), .ref (q 16), .ref (q 17), .ref (q 18), .int (nI (z 19)), .int (nI (z 20)), .ref (q 21), .long (lN ev), .ref (q 23), .ref (q 24), .int (nI (z 25)), .ref (q 26), .int al, .long wl, .int (nI ((rainQ (cy 2) (vg, vs)).2))], ob g 7 [.int (nI (cy 0)), .int (nI (cy 1)), .int (nI (cy 2)), .int (nI (cy 3)), .int (nI (cy 4)), .int (nI (cy 5)), .int (nI (cy 6)), .int (nI (cy 7)), .int (nI kp), .int (nI nc), .ref (cb 0), .ref (cb 1), .ref (cb 2), .ref (cb 3), .ref (cb 4), .ref (cb 5), .ref (cb 6), .ref (cb 7), .ref (cb 8), .ref (cb 9), .ref (cb 10), .ref (cb 11)], aI E (q 15) 25 (xF mn ink t dd), aI E (q 16) 25 (xF mn (rainQ (cy 2) (vg, vs)).1 t ((dd + vi) + 1))]) rfl rfl ?_
          refine v_iinc X dX8_rained_56 3 rfl (v := nI (vi + 1)) (nI_inc vi) (by decide) (lv' := [(4, .int (nI (vi + 1))), (0, .ref k), (1, .int (nI sd)), (2, .int (nI n))]) rfl ?_
          refine v_goto X dX8_rained_59 (tgt := 46) (by decide) ?_
          refine V.lvs [1, 2, 3, 0] rfl ?_
          exact ih46 (vi + 1) ((rainQ (cy 2) (vg, vs)).1) ((rainQ (cy 2) (vg, vs)).2) (⟨by omega, by rw [rainIt_s, ← hb]⟩) (by omega)
    refine V.lvs [2, 3, 4, 0] rfl ?_
    exact L46 _ 0 ink sd (⟨by omega, rfl⟩) (Nat.lt_succ_self _)
  · exact absurd h25 (by rw [hw0]; decide)
set_option maxRecDepth 100000 in
set_option maxHeartbeats 4000000 in
theorem c_X8_rained_no2 (l : Launch) (E : Et) (k : Nat) (th : Nat) (tr : Nat) (wh : Int32) (g : Nat) (rr : Option Nat) (q : Nat → Nat) (z : Nat → Nat) (nb : Int32) (wa : Int32) (wd : Int64) (ev : Nat) (al : Int32) (wl : Int64) (cy : Nat → Nat) (kp : Nat) (nc : Nat) (cb : Nat → Nat) (sd : Int32) (n : Int32) (hno : ¬ ((nI 0 ≤ sd ∧ sd ≤ nI 65536) ∧ (nI 0 ≤ n ∧ n ≤ nI 60))) : Ct l E yX8_rained cX8_rained 5 (some .int) 5 0 0 [.ref k, .int sd, .int n] [ob k 8 [.int (nI th), .int (nI tr), .int wh, .ref g, va_rf rr, .ref (q 5), .int (nI (z 6)), .int (nI (z 7)), .int (nI (z 8)), .int (nI (z 9)), .int (nI (z 10)), .int nb, .int (nI (z 12)), .int wa, .long wd, .ref (q 15), .ref (q 16), .ref (q 17), .ref (q 18), .int (nI (z 19)), .int (nI (z 20)), .ref (q 21), .long (lN ev), .ref (q 23), .ref (q 24), .int (nI (z 25)), .ref (q 26), .int al, .long wl, .int (nI (z 29))], ob g 7 [.int (nI (cy 0)), .int (nI (cy 1)), .int (nI (cy 2)), .int (nI (cy 3)), .int (nI (cy 4)), .int (nI (cy 5)), .int (nI (cy 6)), .int (nI (cy 7)), .int (nI kp), .int (nI nc), .ref (cb 0), .ref (cb 1), .ref (cb 2), .ref (cb 3), .ref (cb 4), .ref (cb 5), .ref (cb 6), .ref (cb 7), .ref (cb 8), .ref (cb 9), .ref (cb 10), .ref (cb 11)]] (wrI [ob k 8 [.int (nI 0), .int (nI 2), .int (-1), .ref g, va_rf rr, .ref (q 5), .int (nI (z 6)), .int (nI (z 7)), .int (nI (z 8)), .int (nI (z 9)), .int (nI (z 10)), .int nb, .int (nI (z 12)), .int wa, .long wd, .ref (q 15), .ref (q 16), .ref (q 17), .ref (q 18), .int (nI (z 19)), .int (nI (z 20)), .ref (q 21), .long (lN ev), .ref (q 23), .ref (q 24), .int (nI (z 25)), .ref (q 26), .int al, .long wl, .int (nI (z 29))], ob g 7 [.int (nI (cy 0)), .int (nI (cy 1)), .int (nI (cy 2)), .int (nI (cy 3)), .int (nI (cy 4)), .int (nI (cy 5)), .int (nI (cy 6)), .int (nI (cy 7)), .int (nI kp), .int (nI nc), .ref (cb 0), .ref (cb 1), .ref (cb 2), .ref (cb 3), .ref (cb 4), .ref (cb 5), .ref (cb 6), .ref (cb 7), .ref (cb 8), .ref (cb 9), .ref (cb 10), .ref (cb 11)]] (-1)) := by
  refine Ct.intro (by decide +kernel) (Nat.le_of_ble_eq_true rfl) (lv := [(0, .ref k), (1, .int sd), (2, .int n)]) rfl ?_
  intro Z X Y
  have hw0 : (if true then (if (nI 0 ≤ sd ∧ sd ≤ nI 65536) ∧ (nI 0 ≤ n ∧ n ≤ nI 60) then 0 else 2) else 1) = 2 := by rw [if_pos rfl, if_neg hno]
  refine v_aload_n X dX8_rained_0 rfl 0 rfl ?_
  refine v_iconst X dX8_rained_1 (v := nI 0) (by decide) ?_
  refine v_put X kcX8 fl_X8_43 dX8_rained_2 0 rfl (ws' := [ob k 8 [.int (nI 0), .int (nI tr), .int wh, .ref g, va_rf rr, .ref (q 5), .int (nI (z 6)), .int (nI (z 7)), .int (nI (z 8)), .int (nI (z 9)), .int (nI (z 10)), .int nb, .int (nI (z 12)), .int wa, .long wd, .ref (q 15), .ref (q 16), .ref (q 17), .ref (q 18), .int (nI (z 19)), .int (nI (z 20)), .ref (q 21), .long (lN ev), .ref (q 23), .ref (q 24), .int (nI (z 25)), .ref (q 26), .int al, .long wl, .int (nI (z 29))], ob g 7 [.int (nI (cy 0)), .int (nI (cy 1)), .int (nI (cy 2)), .int (nI (cy 3)), .int (nI (cy 4)), .int (nI (cy 5)), .int (nI (cy 6)), .int (nI (cy 7)), .int (nI kp), .int (nI nc), .ref (cb 0), .ref (cb 1), .ref (cb 2), .ref (cb 3), .ref (cb 4), .ref (cb 5), .ref (cb 6), .ref (cb 7), .ref (cb 8), .ref (cb 9), .ref (cb 10), .ref (cb 11)]]) rfl rfl ?_
  refine v_aload_n X dX8_rained_5 rfl 0 rfl ?_
  refine v_aload_n X dX8_rained_6 rfl 0 rfl ?_
  refine v_get X kcX8 fl_X8_306 dX8_rained_7 0 rfl rfl ?_
  refine v_ifnull X dX8_rained_10 ?_
  refine v_iconst X dX8_rained_13 (v := nI 1) (by decide) ?_
  refine v_goto X dX8_rained_14 (tgt := 18) (by decide) ?_
  refine v_iload_n X dX8_rained_18 rfl 1 rfl ?_
  refine v_iload_n X dX8_rained_19 rfl 2 rfl ?_
  refine v_roI1 X (rn_V X k_X8_refusesSeed ml_X8_462 dX8_rained_20 (c_X8_refusesSeed l E k 0 tr wh g rr q z nb wa wd ev al wl true sd n ) rfl 0 rfl rfl (by decide) (by decide) (by omega) (by omega) (Nat.le_of_ble_eq_true rfl)) [0] rfl rfl ?_
  refine v_istore_n X dX8_rained_23 rfl (by decide) (lv' := [(3, .int (nI (if true then (if (nI 0 ≤ sd ∧ sd ≤ nI 65536) ∧ (nI 0 ≤ n ∧ n ≤ nI 60) then 0 else 2) else 1))), (0, .ref k), (1, .int sd), (2, .int n)]) rfl ?_
  refine v_iload_n X dX8_rained_24 rfl 0 rfl ?_
  refine v_ifN_le X dX8_rained_25 (tgt := 34) (by decide) (by rw [hw0]; decide) (fun h25 => ?_) (fun h25 => ?_)
  · exact absurd h25 (by rw [hw0]; decide)
  · refine v_aload_n X dX8_rained_28 rfl 1 rfl ?_
    refine v_iload_n X dX8_rained_29 rfl 0 rfl ?_
    refine v_wrI1 X (rn_V X k_X8_refused ml_X8_49 dX8_rained_30 (c_X8_refused l E k 0 tr wh g rr q z nb wa wd ev al wl (if true then (if (nI 0 ≤ sd ∧ sd ≤ nI 65536) ∧ (nI 0 ≤ n ∧ n ≤ nI 60) then 0 else 2) else 1) ) rfl 0 rfl rfl (by decide) (by decide) (by omega) (by omega) (Nat.le_of_ble_eq_true rfl)) [0] rfl rfl (ws' := [ob k 8 [.int (nI 0), .int (nI (if true then (if (nI 0 ≤ sd ∧ sd ≤ nI 65536) ∧ (nI 0 ≤ n ∧ n ≤ nI 60) then 0 else 2) else 1)), .int (-1), .ref g, va_rf rr, .ref (q 5), .int (nI (z 6)), .int (nI (z 7)), .int (nI (z 8)), .int (nI (z 9)), .int (nI (z 10)), .int nb, .int (nI (z 12)), .int wa, .long wd, .ref (q 15), .ref (q 16), .ref (q 17), .ref (q 18), .int (nI (z 19)), .int (nI (z 20)), .ref (q 21), .long (lN ev), .ref (q 23), .ref (q 24), .int (nI (z 25)), .ref (q 26), .int al, .long wl, .int (nI (z 29))], ob g 7 [.int (nI (cy 0)), .int (nI (cy 1)), .int (nI (cy 2)), .int (nI (cy 3)), .int (nI (cy 4)), .int (nI (cy 5)), .int (nI (cy 6)), .int (nI (cy 7)), .int (nI kp), .int (nI nc), .ref (cb 0), .ref (cb 1), .ref (cb 2), .ref (cb 3), .ref (cb 4), .ref (cb 5), .ref (cb 6), .ref (cb 7), .ref (cb 8), .ref (cb 9), .ref (cb 10), .ref (cb 11)]]) rfl rfl ?_
    exact v_iret X Y dX8_rained_33 (wrI_of (by rw [hw0]) rfl) (by omega) (by omega)
set_option maxRecDepth 100000 in
set_option maxHeartbeats 4000000 in
theorem c_X8_rained_n (l : Launch) (E : Et) (k : Nat) (th : Nat) (tr : Nat) (wh : Int32) (rr : Option Nat) (q : Nat → Nat) (z : Nat → Nat) (nb : Int32) (wa : Int32) (wd : Int64) (ev : Nat) (al : Int32) (wl : Int64) (sd : Int32) (n : Int32)  : Ct l E yX8_rained cX8_rained 5 (some .int) 5 0 0 [.ref k, .int sd, .int n] [ob k 8 [.int (nI th), .int (nI tr), .int wh, .null, va_rf rr, .ref (q 5), .int (nI (z 6)), .int (nI (z 7)), .int (nI (z 8)), .int (nI (z 9)), .int (nI (z 10)), .int nb, .int (nI (z 12)), .int wa, .long wd, .ref (q 15), .ref (q 16), .ref (q 17), .ref (q 18), .int (nI (z 19)), .int (nI (z 20)), .ref (q 21), .long (lN ev), .ref (q 23), .ref (q 24), .int (nI (z 25)), .ref (q 26), .int al, .long wl, .int (nI (z 29))]] (wrI [ob k 8 [.int (nI 0), .int (nI 1), .int (-1), .null, va_rf rr, .ref (q 5), .int (nI (z 6)), .int (nI (z 7)), .int (nI (z 8)), .int (nI (z 9)), .int (nI (z 10)), .int nb, .int (nI (z 12)), .int wa, .long wd, .ref (q 15), .ref (q 16), .ref (q 17), .ref (q 18), .int (nI (z 19)), .int (nI (z 20)), .ref (q 21), .long (lN ev), .ref (q 23), .ref (q 24), .int (nI (z 25)), .ref (q 26), .int al, .long wl, .int (nI (z 29))]] (-1)) := by
  refine Ct.intro (by decide +kernel) (Nat.le_of_ble_eq_true rfl) (lv := [(0, .ref k), (1, .int sd), (2, .int n)]) rfl ?_
  intro Z X Y
  refine v_aload_n X dX8_rained_0 rfl 0 rfl ?_
  refine v_iconst X dX8_rained_1 (v := nI 0) (by decide) ?_
  refine v_put X kcX8 fl_X8_43 dX8_rained_2 0 rfl (ws' := [ob k 8 [.int (nI 0), .int (nI tr), .int wh, .null, va_rf rr, .ref (q 5), .int (nI (z 6)), .int (nI (z 7)), .int (nI (z 8)), .int (nI (z 9)), .int (nI (z 10)), .int nb, .int (nI (z 12)), .int wa, .long wd, .ref (q 15), .ref (q 16), .ref (q 17), .ref (q 18), .int (nI (z 19)), .int (nI (z 20)), .ref (q 21), .long (lN ev), .ref (q 23), .ref (q 24), .int (nI (z 25)), .ref (q 26), .int al, .long wl, .int (nI (z 29))]]) rfl rfl ?_
  refine v_aload_n X dX8_rained_5 rfl 0 rfl ?_
  refine v_aload_n X dX8_rained_6 rfl 0 rfl ?_
  refine v_get X kcX8 fl_X8_306 dX8_rained_7 0 rfl rfl ?_
  refine v_ifnullN X dX8_rained_10 (tgt := 17) (by decide) ?_
  refine v_iconst X dX8_rained_17 (v := nI 0) (by decide) ?_
  refine v_iload_n X dX8_rained_18 rfl 1 rfl ?_
  refine v_iload_n X dX8_rained_19 rfl 2 rfl ?_
  refine v_roI1 X (rn_V X k_X8_refusesSeed ml_X8_462 dX8_rained_20 (c_X8_refusesSeed_n l E k 0 tr wh rr q z nb wa wd ev al wl sd n ) rfl 0 rfl rfl (by decide) (by decide) (by omega) (by omega) (Nat.le_of_ble_eq_true rfl)) [0] rfl rfl ?_
  refine v_istore_n X dX8_rained_23 rfl (by decide) (lv' := [(3, .int (nI 1)), (0, .ref k), (1, .int sd), (2, .int n)]) rfl ?_
  refine v_iload_n X dX8_rained_24 rfl 0 rfl ?_
  refine v_ifN_le X dX8_rained_25 (tgt := 34) (by decide) (by decide) (fun h25 => ?_) (fun h25 => ?_)
  · exfalso; omega
  · refine v_aload_n X dX8_rained_28 rfl 1 rfl ?_
    refine v_iload_n X dX8_rained_29 rfl 0 rfl ?_
    refine v_wrI1 X (rn_V X k_X8_refused ml_X8_49 dX8_rained_30 (c_X8_refused_n l E k 0 tr wh rr q z nb wa wd ev al wl 1 ) rfl 0 rfl rfl (by decide) (by decide) (by omega) (by omega) (Nat.le_of_ble_eq_true rfl)) [0] rfl rfl (ws' := [ob k 8 [.int (nI 0), .int (nI 1), .int (-1), .null, va_rf rr, .ref (q 5), .int (nI (z 6)), .int (nI (z 7)), .int (nI (z 8)), .int (nI (z 9)), .int (nI (z 10)), .int nb, .int (nI (z 12)), .int wa, .long wd, .ref (q 15), .ref (q 16), .ref (q 17), .ref (q 18), .int (nI (z 19)), .int (nI (z 20)), .ref (q 21), .long (lN ev), .ref (q 23), .ref (q 24), .int (nI (z 25)), .ref (q 26), .int al, .long wl, .int (nI (z 29))]]) rfl rfl ?_
    exact v_iret X Y dX8_rained_33 (wrI_of rfl rfl) (by omega) (by omega)
set_option maxRecDepth 100000 in
set_option maxHeartbeats 4000000 in
theorem c_X8_freeBy (l : Launch) (E : Et) (k : Nat) (th : Nat) (tr : Nat) (wh : Int32) (g : Nat) (rr : Option Nat) (q : Nat → Nat) (z : Nat → Nat) (nb : Int32) (wa : Int32) (wd : Int64) (ev : Nat) (al : Int32) (wl : Int64) (cy : Nat → Nat) (kp : Nat) (nc : Nat) (cb : Nat → Nat) (fo : Nat → Nat) (on : Nat → Nat) (tw : Nat → Int32) (xf : Nat → Int32) (mn : Nat → Int32) (ink : Nat → Nat) (t : Nat) (dd : Nat) (Fs : Nat → Nat) (Ft : Nat → Nat) (kf : Nat → Nat) (s0 : Nat) (m : Int32) (sd : Nat) (n : Nat) (hd : cy 4 ≤ 6) (hcl : cy 5 ≤ 8) (hfo : ∀ c, c < cy 5 → fo c ≤ 5) (hon : ∀ c, c < cy 5 → on c < 6) (htw : ∀ c, c < cy 5 → okT (tw c)) (hFs : ∀ c, c < cy 5 → Fs c = strN (fo c) (swI (nI (on c))) (swI (tw c))) (hFt : ∀ c, c < cy 5 → Ft c = turN (fo c) (swI (nI (on c))) (swI (tw c))) (hink : ∀ c, ink c ≤ 40) (hz : ∀ c, cy 5 ≤ c → ink c = 0) (hr : cy 2 ≤ 100) (hok : okM m (cy 3)) (hsd : sd < 65537) (hn : n ≤ 60) : Ct l E yX8_freeBy cX8_freeBy 6 (some .int) 5 0 0 [.ref k, .int m, .int (nI sd), .int (nI n)] [ob k 8 [.int (nI th), .int (nI tr), .int wh, .ref g, va_rf rr, .ref (q 5), .int (nI (z 6)), .int (nI (z 7)), .int (nI (z 8)), .int (nI (z 9)), .int (nI (z 10)), .int nb, .int (nI (z 12)), .int wa, .long wd, .ref (q 15), .ref (q 16), .ref (q 17), .ref (q 18), .int (nI (z 19)), .int (nI (z 20)), .ref (q 21), .long (lN ev), .ref (q 23), .ref (q 24), .int (nI (z 25)), .ref (q 26), .int al, .long wl, .int (nI s0)], ob g 7 [.int (nI (cy 0)), .int (nI (cy 1)), .int (nI (cy 2)), .int (nI (cy 3)), .int (nI (cy 4)), .int (nI (cy 5)), .int (nI (cy 6)), .int (nI (cy 7)), .int (nI kp), .int (nI nc), .ref (cb 0), .ref (cb 1), .ref (cb 2), .ref (cb 3), .ref (cb 4), .ref (cb 5), .ref (cb 6), .ref (cb 7), .ref (cb 8), .ref (cb 9), .ref (cb 10), .ref (cb 11)], aN E (cb 2) 8 fo, aN E (cb 3) 8 on, aI E (cb 4) 8 tw, aI E (q 15) 25 (xF mn ink t dd), aI E (q 16) 25 xf, aM E (q 21) 8 kf] (wrI [ob k 8 [.int (nI 0), .int (nI 0), .int (-1), .ref g, va_rf rr, .ref (q 5), .int (nI (z 6)), .int (nI (z 7)), .int (nI (z 8)), .int (nI (z 9)), .int (nI (z 10)), .int nb, .int (nI (z 12)), .int wa, .long wd, .ref (q 15), .ref (q 16), .ref (q 17), .ref (q 18), .int (nI (z 19)), .int (nI (z 20)), .ref (q 21), .long (lN (allS (cy 4))), .ref (q 23), .ref (q 24), .int (nI (z 25)), .ref (q 26), .int al, .long wl, .int (nI ((rainIt (cy 2) ((fst_ (frP cy Fs Ft ink mn t sd m) (n + 1) 0).getD (n + 1)) (ink, sd)).2))], ob g 7 [.int (nI (cy 0)), .int (nI (cy 1)), .int (nI (cy 2)), .int (nI (cy 3)), .int (nI (cy 4)), .int (nI (cy 5)), .int (nI (cy 6)), .int (nI (cy 7)), .int (nI kp), .int (nI nc), .ref (cb 0), .ref (cb 1), .ref (cb 2), .ref (cb 3), .ref (cb 4), .ref (cb 5), .ref (cb 6), .ref (cb 7), .ref (cb 8), .ref (cb 9), .ref (cb 10), .ref (cb 11)], aN E (cb 2) 8 fo, aN E (cb 3) 8 on, aI E (cb 4) 8 tw, aI E (q 15) 25 (xF mn ink t dd), aI E (q 16) 25 (xF mn (rainIt (cy 2) ((fst_ (frP cy Fs Ft ink mn t sd m) (n + 1) 0).getD (n + 1)) (ink, sd)).1 t (dd + (fst_ (frP cy Fs Ft ink mn t sd m) (n + 1) 0).getD (n + 1))), aM E (q 21) 8 (lyF Fs Ft t (cy 4) kf (cy 5))] (optI (fst_ (frP cy Fs Ft ink mn t sd m) (n + 1) 0))) := by
  refine Ct.intro (by decide +kernel) (Nat.le_of_ble_eq_true rfl) (lv := [(0, .ref k), (1, .int m), (2, .int (nI sd)), (3, .int (nI n))]) rfl ?_
  intro Z X Y
  have hw0 : (if decide (okM m (cy 3)) then (if (nI 0 ≤ nI sd ∧ nI sd ≤ nI 65536) ∧ (nI 0 ≤ nI n ∧ nI n ≤ nI 60) then 0 else 2) else 1) = 0 := by rw [if_pos (decide_eq_true hok), if_pos ⟨⟨(nI_leI (by decide) (by omega)).mpr (Nat.zero_le sd), (nI_leI (by omega) (by decide)).mpr (by omega)⟩, (nI_leI (by decide) (by omega)).mpr (Nat.zero_le n), (nI_leI (by omega) (by decide)).mpr (by omega)⟩]
  refine v_aload_n X dX8_freeBy_0 rfl 0 rfl ?_
  refine v_iconst X dX8_freeBy_1 (v := nI 0) (by decide) ?_
  refine v_put X kcX8 fl_X8_43 dX8_freeBy_2 0 rfl (ws' := [ob k 8 [.int (nI 0), .int (nI tr), .int wh, .ref g, va_rf rr, .ref (q 5), .int (nI (z 6)), .int (nI (z 7)), .int (nI (z 8)), .int (nI (z 9)), .int (nI (z 10)), .int nb, .int (nI (z 12)), .int wa, .long wd, .ref (q 15), .ref (q 16), .ref (q 17), .ref (q 18), .int (nI (z 19)), .int (nI (z 20)), .ref (q 21), .long (lN ev), .ref (q 23), .ref (q 24), .int (nI (z 25)), .ref (q 26), .int al, .long wl, .int (nI s0)], ob g 7 [.int (nI (cy 0)), .int (nI (cy 1)), .int (nI (cy 2)), .int (nI (cy 3)), .int (nI (cy 4)), .int (nI (cy 5)), .int (nI (cy 6)), .int (nI (cy 7)), .int (nI kp), .int (nI nc), .ref (cb 0), .ref (cb 1), .ref (cb 2), .ref (cb 3), .ref (cb 4), .ref (cb 5), .ref (cb 6), .ref (cb 7), .ref (cb 8), .ref (cb 9), .ref (cb 10), .ref (cb 11)], aN E (cb 2) 8 fo, aN E (cb 3) 8 on, aI E (cb 4) 8 tw, aI E (q 15) 25 (xF mn ink t dd), aI E (q 16) 25 xf, aM E (q 21) 8 kf]) rfl rfl ?_
  refine v_aload_n X dX8_freeBy_5 rfl 0 rfl ?_
  refine v_aload_n X dX8_freeBy_6 rfl 0 rfl ?_
  refine v_iload_n X dX8_freeBy_7 rfl 1 rfl ?_
  refine v_roI1 X (rn_V X k_X8_isMan ml_X8_345 dX8_freeBy_8 (c_X8_isMan l E k 0 tr wh g rr q (upN z 29 s0) nb wa wd ev al wl cy kp nc cb m ) rfl 0 rfl rfl (by decide) (by decide) (by omega) (by omega) (Nat.le_of_ble_eq_true rfl)) [0, 1] rfl rfl ?_
  refine v_iload_n X dX8_freeBy_11 rfl 2 rfl ?_
  refine v_iload_n X dX8_freeBy_12 rfl 3 rfl ?_
  refine v_roI1 X (rn_V X k_X8_refusesSeed ml_X8_462 dX8_freeBy_13 (c_X8_refusesSeed l E k 0 tr wh g rr q (upN z 29 s0) nb wa wd ev al wl (decide (okM m (cy 3))) (nI sd) (nI n) ) rfl 0 rfl rfl (by decide) (by decide) (by omega) (by omega) (Nat.le_of_ble_eq_true rfl)) [0] rfl rfl ?_
  refine v_istore X dX8_freeBy_16 (by decide) (lv' := [(4, .int (nI (if (decide (okM m (cy 3))) then (if (nI 0 ≤ (nI sd) ∧ (nI sd) ≤ nI 65536) ∧ (nI 0 ≤ (nI n) ∧ (nI n) ≤ nI 60) then 0 else 2) else 1))), (0, .ref k), (1, .int m), (2, .int (nI sd)), (3, .int (nI n))]) rfl ?_
  refine v_iload X dX8_freeBy_18 0 rfl ?_
  refine v_ifN_le X dX8_freeBy_20 (tgt := 30) (by decide) (by rw [hw0]; decide) (fun h20 => ?_) (fun h20 => ?_)
  · refine v_aload_n X dX8_freeBy_30 rfl 1 rfl ?_
    refine v_wrV1 X (rn_V X k_X8_worksLaid ml_X8_354 dX8_freeBy_31 (c_X8_worksLaid l E k 0 tr wh g rr q (upN z 29 s0) nb wa wd ev al wl cy kp nc cb fo on tw xf mn ink t dd Fs Ft kf (by first | assumption | omega) (by first | assumption | omega) (by first | assumption | omega) (by first | assumption | omega) (by first | assumption | omega) (by first | assumption | omega) (by first | assumption | omega)) rfl 0 rfl rfl (by decide) (by decide) (by omega) (by omega) (Nat.le_of_ble_eq_true rfl)) [0, 1, 2, 3, 4, 5, 6, 7] rfl rfl (ws' := [ob k 8 [.int (nI 0), .int (nI tr), .int wh, .ref g, va_rf rr, .ref (q 5), .int (nI (z 6)), .int (nI (z 7)), .int (nI (z 8)), .int (nI (z 9)), .int (nI (z 10)), .int nb, .int (nI (z 12)), .int wa, .long wd, .ref (q 15), .ref (q 16), .ref (q 17), .ref (q 18), .int (nI (z 19)), .int (nI (z 20)), .ref (q 21), .long (lN (allS (cy 4))), .ref (q 23), .ref (q 24), .int (nI (z 25)), .ref (q 26), .int al, .long wl, .int (nI s0)], ob g 7 [.int (nI (cy 0)), .int (nI (cy 1)), .int (nI (cy 2)), .int (nI (cy 3)), .int (nI (cy 4)), .int (nI (cy 5)), .int (nI (cy 6)), .int (nI (cy 7)), .int (nI kp), .int (nI nc), .ref (cb 0), .ref (cb 1), .ref (cb 2), .ref (cb 3), .ref (cb 4), .ref (cb 5), .ref (cb 6), .ref (cb 7), .ref (cb 8), .ref (cb 9), .ref (cb 10), .ref (cb 11)], aN E (cb 2) 8 fo, aN E (cb 3) 8 on, aI E (cb 4) 8 tw, aI E (q 15) 25 (xF mn ink t dd), aI E (q 16) 25 (xF mn ink t dd), aM E (q 21) 8 (lyF Fs Ft t (cy 4) kf (cy 5))]) rfl rfl ?_
    refine v_aload_n X dX8_freeBy_34 rfl 1 rfl ?_
    refine v_iload_n X dX8_freeBy_35 rfl 3 rfl ?_
    refine v_put X kcX8 fl_X8_454 dX8_freeBy_36 0 rfl (ws' := [ob k 8 [.int (nI 0), .int (nI tr), .int wh, .ref g, va_rf rr, .ref (q 5), .int (nI (z 6)), .int (nI (z 7)), .int (nI (z 8)), .int (nI (z 9)), .int (nI (z 10)), .int nb, .int (nI (z 12)), .int wa, .long wd, .ref (q 15), .ref (q 16), .ref (q 17), .ref (q 18), .int (nI (z 19)), .int (nI (z 20)), .ref (q 21), .long (lN (allS (cy 4))), .ref (q 23), .ref (q 24), .int (nI (z 25)), .ref (q 26), .int al, .long wl, .int (nI sd)], ob g 7 [.int (nI (cy 0)), .int (nI (cy 1)), .int (nI (cy 2)), .int (nI (cy 3)), .int (nI (cy 4)), .int (nI (cy 5)), .int (nI (cy 6)), .int (nI (cy 7)), .int (nI kp), .int (nI nc), .ref (cb 0), .ref (cb 1), .ref (cb 2), .ref (cb 3), .ref (cb 4), .ref (cb 5), .ref (cb 6), .ref (cb 7), .ref (cb 8), .ref (cb 9), .ref (cb 10), .ref (cb 11)], aN E (cb 2) 8 fo, aN E (cb 3) 8 on, aI E (cb 4) 8 tw, aI E (q 15) 25 (xF mn ink t dd), aI E (q 16) 25 (xF mn ink t dd), aM E (q 21) 8 (lyF Fs Ft t (cy 4) kf (cy 5))]) rfl rfl ?_
    refine v_iconst X dX8_freeBy_39 (v := nI 0) (by decide) ?_
    refine v_istore X dX8_freeBy_40 (by decide) (lv' := [(5, .int (nI 0)), (4, .int (nI (if (decide (okM m (cy 3))) then (if (nI 0 ≤ (nI sd) ∧ (nI sd) ≤ nI 65536) ∧ (nI 0 ≤ (nI n) ∧ (nI n) ≤ nI 60) then 0 else 2) else 1))), (0, .ref k), (1, .int m), (2, .int (nI sd)), (3, .int (nI n))]) rfl ?_
    have L42 : ∀ (j42 : Nat) (vi : Nat) (vg : Nat → Nat) (vs : Nat), (vi ≤ n + 1 ∧ (vg, vs) = rainIt (cy 2) vi (ink, sd) ∧ fst_ (frP cy Fs Ft ink mn t sd m) (n + 1) 0 = fst_ (frP cy Fs Ft ink mn t sd m) (n + 1 - vi) vi) → n + 1 - vi < j42 → V E Z 42 [(0, .ref k), (1, .int m), (2, .int (nI sd)), (3, .int (nI n)), (5, .int (nI vi))] [] [ob k 8 [.int (nI 0), .int (nI tr), .int wh, .ref g, va_rf rr, .ref (q 5), .int (nI (z 6)), .int (nI (z 7)), .int (nI (z 8)), .int (nI (z 9)), .int (nI (z 10)), .int nb, .int (nI (z 12)), .int wa, .long wd, .ref (q 15), .ref (q 16), .ref (q 17), .ref (q 18), .int (nI (z 19)), .int (nI (z 20)), .ref (q 21), .long (lN (allS (cy 4))), .ref (q 23), .ref (q 24), .int (nI (z 25)), .ref (q 26), .int al, .long wl, .int (nI vs)], ob g 7 [.int (nI (cy 0)), .int (nI (cy 1)), .int (nI (cy 2)), .int (nI (cy 3)), .int (nI (cy 4)), .int (nI (cy 5)), .int (nI (cy 6)), .int (nI (cy 7)), .int (nI kp), .int (nI nc), .ref (cb 0), .ref (cb 1), .ref (cb 2), .ref (cb 3), .ref (cb 4), .ref (cb 5), .ref (cb 6), .ref (cb 7), .ref (cb 8), .ref (cb 9), .ref (cb 10), .ref (cb 11)], aN E (cb 2) 8 fo, aN E (cb 3) 8 on, aI E (cb 4) 8 tw, aI E (q 15) 25 (xF mn ink t dd), aI E (q 16) 25 (xF mn vg t (dd + vi)), aM E (q 21) 8 (lyF Fs Ft t (cy 4) kf (cy 5))] 0 0 := by
      intro j42
      induction j42 with
      | zero => intro vi vg vs hI hM; exact absurd hM (Nat.not_lt_zero _)
      | succ j42 ih42 =>
        intro vi vg vs hI42 hM42
        obtain ⟨hc, hb, hq⟩ := id hI42
        refine v_iload X dX8_freeBy_42 4 rfl ?_
        refine v_iload_n X dX8_freeBy_44 rfl 3 rfl ?_
        refine v_icmpN_gt X dX8_freeBy_45 (tgt := 73) (by decide) (by omega) (by omega) (fun h45 => ?_) (fun h45 => ?_)
        · obtain rfl : vi = n + 1 := by omega
          have hf9 : fst_ (frP cy Fs Ft ink mn t sd m) (n + 1) 0 = none := by rw [hq, show n + 1 - (n + 1) = 0 by omega]; rfl
          obtain rfl : vg = (rainIt (cy 2) (n + 1) (ink, sd)).1 := congrArg Prod.fst hb
          obtain rfl : vs = (rainIt (cy 2) (n + 1) (ink, sd)).2 := congrArg Prod.snd hb
          refine v_aload_n X dX8_freeBy_73 rfl 0 rfl ?_
          refine v_bipush X dX8_freeBy_74 (v := (-2)) (by decide) ?_
          refine v_wrI1 X (rn_V X k_X8_good ml_X8_53 dX8_freeBy_76 (c_X8_good l E k 0 tr wh g rr q (upN z 29 ((rainIt (cy 2) (n + 1) (ink, sd)).2)) nb wa wd (allS (cy 4)) al wl (-2) ) rfl 0 rfl rfl (by decide) (by decide) (by omega) (by omega) (Nat.le_of_ble_eq_true rfl)) [0] rfl rfl (ws' := [ob k 8 [.int (nI 0), .int (nI 0), .int (-1), .ref g, va_rf rr, .ref (q 5), .int (nI (z 6)), .int (nI (z 7)), .int (nI (z 8)), .int (nI (z 9)), .int (nI (z 10)), .int nb, .int (nI (z 12)), .int wa, .long wd, .ref (q 15), .ref (q 16), .ref (q 17), .ref (q 18), .int (nI (z 19)), .int (nI (z 20)), .ref (q 21), .long (lN (allS (cy 4))), .ref (q 23), .ref (q 24), .int (nI (z 25)), .ref (q 26), .int al, .long wl, .int (nI ((rainIt (cy 2) (n + 1) (ink, sd)).2))], ob g 7 [.int (nI (cy 0)), .int (nI (cy 1)), .int (nI (cy 2)), .int (nI (cy 3)), .int (nI (cy 4)), .int (nI (cy 5)), .int (nI (cy 6)), .int (nI (cy 7)), .int (nI kp), .int (nI nc), .ref (cb 0), .ref (cb 1), .ref (cb 2), .ref (cb 3), .ref (cb 4), .ref (cb 5), .ref (cb 6), .ref (cb 7), .ref (cb 8), .ref (cb 9), .ref (cb 10), .ref (cb 11)], aN E (cb 2) 8 fo, aN E (cb 3) 8 on, aI E (cb 4) 8 tw, aI E (q 15) 25 (xF mn ink t dd), aI E (q 16) 25 (xF mn (rainIt (cy 2) (n + 1) (ink, sd)).1 t (dd + (n + 1))), aM E (q 21) 8 (lyF Fs Ft t (cy 4) kf (cy 5))]) rfl rfl ?_
          exact v_iret X Y dX8_freeBy_79 (wrI_of (by rw [hf9]; rfl) (by rw [hf9]; rfl)) (by omega) (by omega)
        · have hvg : ∀ c, vg c ≤ 40 := by (have e9 : vg = _ := congrArg Prod.fst hb); rw [e9]; exact rainIt_le hink vi
          have hvs : vs < 65537 := by (have e9 : vs = _ := congrArg Prod.snd hb); rw [e9]; exact rainIt_lt (x := (ink, sd)) hsd vi
          have hvz : ∀ c, cy 5 ≤ c → vg c = 0 := by (have e9 : vg = _ := congrArg Prod.fst hb); rw [e9]; exact rainIt_z (x := (ink, sd)) hz vi
          refine v_aload_n X dX8_freeBy_48 rfl 0 rfl ?_
          refine v_iload_n X dX8_freeBy_49 rfl 1 rfl ?_
          refine v_roI1 X (rn_V X k_X8_isStuck ml_X8_371 dX8_freeBy_50 (c_X8_isStuck l E k 0 tr wh g rr q (upN z 29 vs) nb wa wd al wl cy kp nc cb mn vg t (dd + vi) Fs Ft kf m (by first | assumption | omega) (by first | assumption | omega) (hvg) (hvz)) rfl 0 rfl rfl (by decide) (by decide) (by omega) (by omega) (Nat.le_of_ble_eq_true rfl)) [0, 1, 6, 7] rfl rfl ?_
          refine v_ifB_ne X dX8_freeBy_53 (tgt := 63) (by decide) (fun h53 => ?_) (fun h53 => ?_)
          · have hp0 : frP cy Fs Ft ink mn t sd m vi = false := (frP_e hb).trans (decide_eq_false (fun q => q (of_decide_eq_true h53)))
            refine v_aload_n X dX8_freeBy_63 rfl 0 rfl ?_
            refine v_wrV1 X (rn_V X k_X8_rainyDay ml_X8_466 dX8_freeBy_64 (c_X8_rainyDay l E k 0 tr wh g rr q z nb wa wd (allS (cy 4)) al wl cy kp nc cb mn vg t (dd + vi) vs (by first | assumption | omega) (hvg) (hvz) (by first | assumption | omega) (hvs)) rfl 0 rfl rfl (by decide) (by decide) (by omega) (by omega) (Nat.le_of_ble_eq_true rfl)) [0, 1, 6] rfl rfl (ws' := [ob k 8 [.int (nI 0), .int (nI tr), .int wh, .ref g, va_rf rr, .ref (q 5), .int (nI (z 6)), .int (nI (z 7)), .int (nI (z 8)), .int (nI (z 9)), .int (nI (z 10)), .int nb, .int (nI (z 12)), .int wa, .long wd, .ref (q 15), .ref (q 16), .ref (q 17), .ref (q 18), .int (nI (z 19)), .int (nI (z 20)), .ref (q 21), .long (lN (allS (cy 4))), .ref (q 23), .ref (q 24), .int (nI (z 25)), .ref (q 26), .int al, .long wl, .int (nI ((rainQ (cy 2) (vg, vs)).2))], ob g 7 [.int (nI (cy 0)), .int (nI (cy 1)), .int (nI (cy 2)), .int (nI (cy 3)), .int (nI (cy 4)), .int (nI (cy 5)), .int (nI (cy 6)), .int (nI (cy 7)), .int (nI kp), .int (nI nc), .ref (cb 0), .ref (cb 1), .ref (cb 2), .ref (cb 3), .ref (cb 4), .ref (cb 5), .ref (cb 6), .ref (cb 7), .ref (cb 8), .ref (cb 9), .ref (cb 10), .ref (cb 11)], aN E (cb 2) 8 fo, aN E (cb 3) 8 on, aI E (cb 4) 8 tw, aI E (q 15) 25 (xF mn ink t dd), aI E (q 16) 25 (xF mn (rainQ (cy 2) (vg, vs)).1 t ((dd + vi) + 1)), aM E (q 21) 8 (lyF Fs Ft t (cy 4) kf (cy 5))]) rfl rfl ?_
            refine v_iinc X dX8_freeBy_67 4 rfl (v := nI (vi + 1)) (nI_inc vi) (by decide) (lv' := [(5, .int (nI (vi + 1))), (0, .ref k), (1, .int m), (2, .int (nI sd)), (3, .int (nI n))]) rfl ?_
            refine v_goto X dX8_freeBy_70 (tgt := 42) (by decide) ?_
            refine V.lvs [1, 2, 3, 4, 0] rfl ?_
            exact ih42 (vi + 1) ((rainQ (cy 2) (vg, vs)).1) ((rainQ (cy 2) (vg, vs)).2) (⟨by omega, by rw [rainIt_s, ← hb], hq.trans (fst_no (by omega) hp0)⟩) (by omega)
          · have hp1 : frP cy Fs Ft ink mn t sd m vi = true := (frP_e hb).trans (decide_eq_true (of_decide_eq_false h53))
            have hf9 : fst_ (frP cy Fs Ft ink mn t sd m) (n + 1) 0 = some vi := hq.trans (fst_hit (by omega) hp1)
            obtain rfl : vg = (rainIt (cy 2) vi (ink, sd)).1 := congrArg Prod.fst hb
            obtain rfl : vs = (rainIt (cy 2) vi (ink, sd)).2 := congrArg Prod.snd hb
            refine v_aload_n X dX8_freeBy_56 rfl 0 rfl ?_
            refine v_iload X dX8_freeBy_57 4 rfl ?_
            refine v_wrI1 X (rn_V X k_X8_good ml_X8_53 dX8_freeBy_59 (c_X8_good l E k 0 tr wh g rr q (upN z 29 ((rainIt (cy 2) vi (ink, sd)).2)) nb wa wd (allS (cy 4)) al wl (nI vi) ) rfl 0 rfl rfl (by decide) (by decide) (by omega) (by omega) (Nat.le_of_ble_eq_true rfl)) [0] rfl rfl (ws' := [ob k 8 [.int (nI 0), .int (nI 0), .int (-1), .ref g, va_rf rr, .ref (q 5), .int (nI (z 6)), .int (nI (z 7)), .int (nI (z 8)), .int (nI (z 9)), .int (nI (z 10)), .int nb, .int (nI (z 12)), .int wa, .long wd, .ref (q 15), .ref (q 16), .ref (q 17), .ref (q 18), .int (nI (z 19)), .int (nI (z 20)), .ref (q 21), .long (lN (allS (cy 4))), .ref (q 23), .ref (q 24), .int (nI (z 25)), .ref (q 26), .int al, .long wl, .int (nI ((rainIt (cy 2) vi (ink, sd)).2))], ob g 7 [.int (nI (cy 0)), .int (nI (cy 1)), .int (nI (cy 2)), .int (nI (cy 3)), .int (nI (cy 4)), .int (nI (cy 5)), .int (nI (cy 6)), .int (nI (cy 7)), .int (nI kp), .int (nI nc), .ref (cb 0), .ref (cb 1), .ref (cb 2), .ref (cb 3), .ref (cb 4), .ref (cb 5), .ref (cb 6), .ref (cb 7), .ref (cb 8), .ref (cb 9), .ref (cb 10), .ref (cb 11)], aN E (cb 2) 8 fo, aN E (cb 3) 8 on, aI E (cb 4) 8 tw, aI E (q 15) 25 (xF mn ink t dd), aI E (q 16) 25 (xF mn (rainIt (cy 2) vi (ink, sd)).1 t (dd + vi)), aM E (q 21) 8 (lyF Fs Ft t (cy 4) kf (cy 5))]) rfl rfl ?_
            exact v_iret X Y dX8_freeBy_62 (wrI_of (by rw [hf9]; rfl) (by rw [hf9]; rfl)) (by omega) (by omega)
    refine V.lvs [2, 3, 4, 5, 0] rfl ?_
    exact L42 _ 0 ink sd (⟨by omega, rfl, rfl⟩) (Nat.lt_succ_self _)
  · exact absurd h20 (by rw [hw0]; decide)
set_option maxRecDepth 100000 in
set_option maxHeartbeats 4000000 in
theorem c_X8_freeBy_no1 (l : Launch) (E : Et) (k : Nat) (th : Nat) (tr : Nat) (wh : Int32) (g : Nat) (rr : Option Nat) (q : Nat → Nat) (z : Nat → Nat) (nb : Int32) (wa : Int32) (wd : Int64) (ev : Nat) (al : Int32) (wl : Int64) (cy : Nat → Nat) (kp : Nat) (nc : Nat) (cb : Nat → Nat) (m : Int32) (sd : Int32) (n : Int32) (hno : ¬ okM m (cy 3)) : Ct l E yX8_freeBy cX8_freeBy 6 (some .int) 5 0 0 [.ref k, .int m, .int sd, .int n] [ob k 8 [.int (nI th), .int (nI tr), .int wh, .ref g, va_rf rr, .ref (q 5), .int (nI (z 6)), .int (nI (z 7)), .int (nI (z 8)), .int (nI (z 9)), .int (nI (z 10)), .int nb, .int (nI (z 12)), .int wa, .long wd, .ref (q 15), .ref (q 16), .ref (q 17), .ref (q 18), .int (nI (z 19)), .int (nI (z 20)), .ref (q 21), .long (lN ev), .ref (q 23), .ref (q 24), .int (nI (z 25)), .ref (q 26), .int al, .long wl, .int (nI (z 29))], ob g 7 [.int (nI (cy 0)), .int (nI (cy 1)), .int (nI (cy 2)), .int (nI (cy 3)), .int (nI (cy 4)), .int (nI (cy 5)), .int (nI (cy 6)), .int (nI (cy 7)), .int (nI kp), .int (nI nc), .ref (cb 0), .ref (cb 1), .ref (cb 2), .ref (cb 3), .ref (cb 4), .ref (cb 5), .ref (cb 6), .ref (cb 7), .ref (cb 8), .ref (cb 9), .ref (cb 10), .ref (cb 11)]] (wrI [ob k 8 [.int (nI 0), .int (nI 1), .int (-1), .ref g, va_rf rr, .ref (q 5), .int (nI (z 6)), .int (nI (z 7)), .int (nI (z 8)), .int (nI (z 9)), .int (nI (z 10)), .int nb, .int (nI (z 12)), .int wa, .long wd, .ref (q 15), .ref (q 16), .ref (q 17), .ref (q 18), .int (nI (z 19)), .int (nI (z 20)), .ref (q 21), .long (lN ev), .ref (q 23), .ref (q 24), .int (nI (z 25)), .ref (q 26), .int al, .long wl, .int (nI (z 29))], ob g 7 [.int (nI (cy 0)), .int (nI (cy 1)), .int (nI (cy 2)), .int (nI (cy 3)), .int (nI (cy 4)), .int (nI (cy 5)), .int (nI (cy 6)), .int (nI (cy 7)), .int (nI kp), .int (nI nc), .ref (cb 0), .ref (cb 1), .ref (cb 2), .ref (cb 3), .ref (cb 4), .ref (cb 5), .ref (cb 6), .ref (cb 7), .ref (cb 8), .ref (cb 9), .ref (cb 10), .ref (cb 11)]] (-1)) := by
  refine Ct.intro (by decide +kernel) (Nat.le_of_ble_eq_true rfl) (lv := [(0, .ref k), (1, .int m), (2, .int sd), (3, .int n)]) rfl ?_
  intro Z X Y
  have hw0 : (if decide (okM m (cy 3)) then (if (nI 0 ≤ sd ∧ sd ≤ nI 65536) ∧ (nI 0 ≤ n ∧ n ≤ nI 60) then 0 else 2) else 1) = 1 := by rw [if_neg (fun q => hno (of_decide_eq_true q))]
  refine v_aload_n X dX8_freeBy_0 rfl 0 rfl ?_
  refine v_iconst X dX8_freeBy_1 (v := nI 0) (by decide) ?_
  refine v_put X kcX8 fl_X8_43 dX8_freeBy_2 0 rfl (ws' := [ob k 8 [.int (nI 0), .int (nI tr), .int wh, .ref g, va_rf rr, .ref (q 5), .int (nI (z 6)), .int (nI (z 7)), .int (nI (z 8)), .int (nI (z 9)), .int (nI (z 10)), .int nb, .int (nI (z 12)), .int wa, .long wd, .ref (q 15), .ref (q 16), .ref (q 17), .ref (q 18), .int (nI (z 19)), .int (nI (z 20)), .ref (q 21), .long (lN ev), .ref (q 23), .ref (q 24), .int (nI (z 25)), .ref (q 26), .int al, .long wl, .int (nI (z 29))], ob g 7 [.int (nI (cy 0)), .int (nI (cy 1)), .int (nI (cy 2)), .int (nI (cy 3)), .int (nI (cy 4)), .int (nI (cy 5)), .int (nI (cy 6)), .int (nI (cy 7)), .int (nI kp), .int (nI nc), .ref (cb 0), .ref (cb 1), .ref (cb 2), .ref (cb 3), .ref (cb 4), .ref (cb 5), .ref (cb 6), .ref (cb 7), .ref (cb 8), .ref (cb 9), .ref (cb 10), .ref (cb 11)]]) rfl rfl ?_
  refine v_aload_n X dX8_freeBy_5 rfl 0 rfl ?_
  refine v_aload_n X dX8_freeBy_6 rfl 0 rfl ?_
  refine v_iload_n X dX8_freeBy_7 rfl 1 rfl ?_
  refine v_roI1 X (rn_V X k_X8_isMan ml_X8_345 dX8_freeBy_8 (c_X8_isMan l E k 0 tr wh g rr q z nb wa wd ev al wl cy kp nc cb m ) rfl 0 rfl rfl (by decide) (by decide) (by omega) (by omega) (Nat.le_of_ble_eq_true rfl)) [0, 1] rfl rfl ?_
  refine v_iload_n X dX8_freeBy_11 rfl 2 rfl ?_
  refine v_iload_n X dX8_freeBy_12 rfl 3 rfl ?_
  refine v_roI1 X (rn_V X k_X8_refusesSeed ml_X8_462 dX8_freeBy_13 (c_X8_refusesSeed l E k 0 tr wh g rr q z nb wa wd ev al wl (decide (okM m (cy 3))) sd n ) rfl 0 rfl rfl (by decide) (by decide) (by omega) (by omega) (Nat.le_of_ble_eq_true rfl)) [0] rfl rfl ?_
  refine v_istore X dX8_freeBy_16 (by decide) (lv' := [(4, .int (nI (if (decide (okM m (cy 3))) then (if (nI 0 ≤ sd ∧ sd ≤ nI 65536) ∧ (nI 0 ≤ n ∧ n ≤ nI 60) then 0 else 2) else 1))), (0, .ref k), (1, .int m), (2, .int sd), (3, .int n)]) rfl ?_
  refine v_iload X dX8_freeBy_18 0 rfl ?_
  refine v_ifN_le X dX8_freeBy_20 (tgt := 30) (by decide) (by rw [hw0]; decide) (fun h20 => ?_) (fun h20 => ?_)
  · exact absurd h20 (by rw [hw0]; decide)
  · refine v_aload_n X dX8_freeBy_23 rfl 1 rfl ?_
    refine v_iload X dX8_freeBy_24 0 rfl ?_
    refine v_wrI1 X (rn_V X k_X8_refused ml_X8_49 dX8_freeBy_26 (c_X8_refused l E k 0 tr wh g rr q z nb wa wd ev al wl (if (decide (okM m (cy 3))) then (if (nI 0 ≤ sd ∧ sd ≤ nI 65536) ∧ (nI 0 ≤ n ∧ n ≤ nI 60) then 0 else 2) else 1) ) rfl 0 rfl rfl (by decide) (by decide) (by omega) (by omega) (Nat.le_of_ble_eq_true rfl)) [0] rfl rfl (ws' := [ob k 8 [.int (nI 0), .int (nI (if (decide (okM m (cy 3))) then (if (nI 0 ≤ sd ∧ sd ≤ nI 65536) ∧ (nI 0 ≤ n ∧ n ≤ nI 60) then 0 else 2) else 1)), .int (-1), .ref g, va_rf rr, .ref (q 5), .int (nI (z 6)), .int (nI (z 7)), .int (nI (z 8)), .int (nI (z 9)), .int (nI (z 10)), .int nb, .int (nI (z 12)), .int wa, .long wd, .ref (q 15), .ref (q 16), .ref (q 17), .ref (q 18), .int (nI (z 19)), .int (nI (z 20)), .ref (q 21), .long (lN ev), .ref (q 23), .ref (q 24), .int (nI (z 25)), .ref (q 26), .int al, .long wl, .int (nI (z 29))], ob g 7 [.int (nI (cy 0)), .int (nI (cy 1)), .int (nI (cy 2)), .int (nI (cy 3)), .int (nI (cy 4)), .int (nI (cy 5)), .int (nI (cy 6)), .int (nI (cy 7)), .int (nI kp), .int (nI nc), .ref (cb 0), .ref (cb 1), .ref (cb 2), .ref (cb 3), .ref (cb 4), .ref (cb 5), .ref (cb 6), .ref (cb 7), .ref (cb 8), .ref (cb 9), .ref (cb 10), .ref (cb 11)]]) rfl rfl ?_
    exact v_iret X Y dX8_freeBy_29 (wrI_of (by rw [hw0]) rfl) (by omega) (by omega)
set_option maxRecDepth 100000 in
set_option maxHeartbeats 4000000 in
theorem c_X8_freeBy_no2 (l : Launch) (E : Et) (k : Nat) (th : Nat) (tr : Nat) (wh : Int32) (g : Nat) (rr : Option Nat) (q : Nat → Nat) (z : Nat → Nat) (nb : Int32) (wa : Int32) (wd : Int64) (ev : Nat) (al : Int32) (wl : Int64) (cy : Nat → Nat) (kp : Nat) (nc : Nat) (cb : Nat → Nat) (m : Int32) (sd : Int32) (n : Int32) (hok : okM m (cy 3)) (hno : ¬ ((nI 0 ≤ sd ∧ sd ≤ nI 65536) ∧ (nI 0 ≤ n ∧ n ≤ nI 60))) : Ct l E yX8_freeBy cX8_freeBy 6 (some .int) 5 0 0 [.ref k, .int m, .int sd, .int n] [ob k 8 [.int (nI th), .int (nI tr), .int wh, .ref g, va_rf rr, .ref (q 5), .int (nI (z 6)), .int (nI (z 7)), .int (nI (z 8)), .int (nI (z 9)), .int (nI (z 10)), .int nb, .int (nI (z 12)), .int wa, .long wd, .ref (q 15), .ref (q 16), .ref (q 17), .ref (q 18), .int (nI (z 19)), .int (nI (z 20)), .ref (q 21), .long (lN ev), .ref (q 23), .ref (q 24), .int (nI (z 25)), .ref (q 26), .int al, .long wl, .int (nI (z 29))], ob g 7 [.int (nI (cy 0)), .int (nI (cy 1)), .int (nI (cy 2)), .int (nI (cy 3)), .int (nI (cy 4)), .int (nI (cy 5)), .int (nI (cy 6)), .int (nI (cy 7)), .int (nI kp), .int (nI nc), .ref (cb 0), .ref (cb 1), .ref (cb 2), .ref (cb 3), .ref (cb 4), .ref (cb 5), .ref (cb 6), .ref (cb 7), .ref (cb 8), .ref (cb 9), .ref (cb 10), .ref (cb 11)]] (wrI [ob k 8 [.int (nI 0), .int (nI 2), .int (-1), .ref g, va_rf rr, .ref (q 5), .int (nI (z 6)), .int (nI (z 7)), .int (nI (z 8)), .int (nI (z 9)), .int (nI (z 10)), .int nb, .int (nI (z 12)), .int wa, .long wd, .ref (q 15), .ref (q 16), .ref (q 17), .ref (q 18), .int (nI (z 19)), .int (nI (z 20)), .ref (q 21), .long (lN ev), .ref (q 23), .ref (q 24), .int (nI (z 25)), .ref (q 26), .int al, .long wl, .int (nI (z 29))], ob g 7 [.int (nI (cy 0)), .int (nI (cy 1)), .int (nI (cy 2)), .int (nI (cy 3)), .int (nI (cy 4)), .int (nI (cy 5)), .int (nI (cy 6)), .int (nI (cy 7)), .int (nI kp), .int (nI nc), .ref (cb 0), .ref (cb 1), .ref (cb 2), .ref (cb 3), .ref (cb 4), .ref (cb 5), .ref (cb 6), .ref (cb 7), .ref (cb 8), .ref (cb 9), .ref (cb 10), .ref (cb 11)]] (-1)) := by
  refine Ct.intro (by decide +kernel) (Nat.le_of_ble_eq_true rfl) (lv := [(0, .ref k), (1, .int m), (2, .int sd), (3, .int n)]) rfl ?_
  intro Z X Y
  have hw0 : (if decide (okM m (cy 3)) then (if (nI 0 ≤ sd ∧ sd ≤ nI 65536) ∧ (nI 0 ≤ n ∧ n ≤ nI 60) then 0 else 2) else 1) = 2 := by rw [if_pos (decide_eq_true hok), if_neg hno]
  refine v_aload_n X dX8_freeBy_0 rfl 0 rfl ?_
  refine v_iconst X dX8_freeBy_1 (v := nI 0) (by decide) ?_
  refine v_put X kcX8 fl_X8_43 dX8_freeBy_2 0 rfl (ws' := [ob k 8 [.int (nI 0), .int (nI tr), .int wh, .ref g, va_rf rr, .ref (q 5), .int (nI (z 6)), .int (nI (z 7)), .int (nI (z 8)), .int (nI (z 9)), .int (nI (z 10)), .int nb, .int (nI (z 12)), .int wa, .long wd, .ref (q 15), .ref (q 16), .ref (q 17), .ref (q 18), .int (nI (z 19)), .int (nI (z 20)), .ref (q 21), .long (lN ev), .ref (q 23), .ref (q 24), .int (nI (z 25)), .ref (q 26), .int al, .long wl, .int (nI (z 29))], ob g 7 [.int (nI (cy 0)), .int (nI (cy 1)), .int (nI (cy 2)), .int (nI (cy 3)), .int (nI (cy 4)), .int (nI (cy 5)), .int (nI (cy 6)), .int (nI (cy 7)), .int (nI kp), .int (nI nc), .ref (cb 0), .ref (cb 1), .ref (cb 2), .ref (cb 3), .ref (cb 4), .ref (cb 5), .ref (cb 6), .ref (cb 7), .ref (cb 8), .ref (cb 9), .ref (cb 10), .ref (cb 11)]]) rfl rfl ?_
  refine v_aload_n X dX8_freeBy_5 rfl 0 rfl ?_
  refine v_aload_n X dX8_freeBy_6 rfl 0 rfl ?_
  refine v_iload_n X dX8_freeBy_7 rfl 1 rfl ?_
  refine v_roI1 X (rn_V X k_X8_isMan ml_X8_345 dX8_freeBy_8 (c_X8_isMan l E k 0 tr wh g rr q z nb wa wd ev al wl cy kp nc cb m ) rfl 0 rfl rfl (by decide) (by decide) (by omega) (by omega) (Nat.le_of_ble_eq_true rfl)) [0, 1] rfl rfl ?_
  refine v_iload_n X dX8_freeBy_11 rfl 2 rfl ?_
  refine v_iload_n X dX8_freeBy_12 rfl 3 rfl ?_
  refine v_roI1 X (rn_V X k_X8_refusesSeed ml_X8_462 dX8_freeBy_13 (c_X8_refusesSeed l E k 0 tr wh g rr q z nb wa wd ev al wl (decide (okM m (cy 3))) sd n ) rfl 0 rfl rfl (by decide) (by decide) (by omega) (by omega) (Nat.le_of_ble_eq_true rfl)) [0] rfl rfl ?_
  refine v_istore X dX8_freeBy_16 (by decide) (lv' := [(4, .int (nI (if (decide (okM m (cy 3))) then (if (nI 0 ≤ sd ∧ sd ≤ nI 65536) ∧ (nI 0 ≤ n ∧ n ≤ nI 60) then 0 else 2) else 1))), (0, .ref k), (1, .int m), (2, .int sd), (3, .int n)]) rfl ?_
  refine v_iload X dX8_freeBy_18 0 rfl ?_
  refine v_ifN_le X dX8_freeBy_20 (tgt := 30) (by decide) (by rw [hw0]; decide) (fun h20 => ?_) (fun h20 => ?_)
  · exact absurd h20 (by rw [hw0]; decide)
  · refine v_aload_n X dX8_freeBy_23 rfl 1 rfl ?_
    refine v_iload X dX8_freeBy_24 0 rfl ?_
    refine v_wrI1 X (rn_V X k_X8_refused ml_X8_49 dX8_freeBy_26 (c_X8_refused l E k 0 tr wh g rr q z nb wa wd ev al wl (if (decide (okM m (cy 3))) then (if (nI 0 ≤ sd ∧ sd ≤ nI 65536) ∧ (nI 0 ≤ n ∧ n ≤ nI 60) then 0 else 2) else 1) ) rfl 0 rfl rfl (by decide) (by decide) (by omega) (by omega) (Nat.le_of_ble_eq_true rfl)) [0] rfl rfl (ws' := [ob k 8 [.int (nI 0), .int (nI (if (decide (okM m (cy 3))) then (if (nI 0 ≤ sd ∧ sd ≤ nI 65536) ∧ (nI 0 ≤ n ∧ n ≤ nI 60) then 0 else 2) else 1)), .int (-1), .ref g, va_rf rr, .ref (q 5), .int (nI (z 6)), .int (nI (z 7)), .int (nI (z 8)), .int (nI (z 9)), .int (nI (z 10)), .int nb, .int (nI (z 12)), .int wa, .long wd, .ref (q 15), .ref (q 16), .ref (q 17), .ref (q 18), .int (nI (z 19)), .int (nI (z 20)), .ref (q 21), .long (lN ev), .ref (q 23), .ref (q 24), .int (nI (z 25)), .ref (q 26), .int al, .long wl, .int (nI (z 29))], ob g 7 [.int (nI (cy 0)), .int (nI (cy 1)), .int (nI (cy 2)), .int (nI (cy 3)), .int (nI (cy 4)), .int (nI (cy 5)), .int (nI (cy 6)), .int (nI (cy 7)), .int (nI kp), .int (nI nc), .ref (cb 0), .ref (cb 1), .ref (cb 2), .ref (cb 3), .ref (cb 4), .ref (cb 5), .ref (cb 6), .ref (cb 7), .ref (cb 8), .ref (cb 9), .ref (cb 10), .ref (cb 11)]]) rfl rfl ?_
    exact v_iret X Y dX8_freeBy_29 (wrI_of (by rw [hw0]) rfl) (by omega) (by omega)
set_option maxRecDepth 100000 in
set_option maxHeartbeats 4000000 in
theorem c_X8_freeBy_n (l : Launch) (E : Et) (k : Nat) (th : Nat) (tr : Nat) (wh : Int32) (rr : Option Nat) (q : Nat → Nat) (z : Nat → Nat) (nb : Int32) (wa : Int32) (wd : Int64) (ev : Nat) (al : Int32) (wl : Int64) (m : Int32) (sd : Int32) (n : Int32)  : Ct l E yX8_freeBy cX8_freeBy 6 (some .int) 5 0 0 [.ref k, .int m, .int sd, .int n] [ob k 8 [.int (nI th), .int (nI tr), .int wh, .null, va_rf rr, .ref (q 5), .int (nI (z 6)), .int (nI (z 7)), .int (nI (z 8)), .int (nI (z 9)), .int (nI (z 10)), .int nb, .int (nI (z 12)), .int wa, .long wd, .ref (q 15), .ref (q 16), .ref (q 17), .ref (q 18), .int (nI (z 19)), .int (nI (z 20)), .ref (q 21), .long (lN ev), .ref (q 23), .ref (q 24), .int (nI (z 25)), .ref (q 26), .int al, .long wl, .int (nI (z 29))]] (wrI [ob k 8 [.int (nI 0), .int (nI 1), .int (-1), .null, va_rf rr, .ref (q 5), .int (nI (z 6)), .int (nI (z 7)), .int (nI (z 8)), .int (nI (z 9)), .int (nI (z 10)), .int nb, .int (nI (z 12)), .int wa, .long wd, .ref (q 15), .ref (q 16), .ref (q 17), .ref (q 18), .int (nI (z 19)), .int (nI (z 20)), .ref (q 21), .long (lN ev), .ref (q 23), .ref (q 24), .int (nI (z 25)), .ref (q 26), .int al, .long wl, .int (nI (z 29))]] (-1)) := by
  refine Ct.intro (by decide +kernel) (Nat.le_of_ble_eq_true rfl) (lv := [(0, .ref k), (1, .int m), (2, .int sd), (3, .int n)]) rfl ?_
  intro Z X Y
  refine v_aload_n X dX8_freeBy_0 rfl 0 rfl ?_
  refine v_iconst X dX8_freeBy_1 (v := nI 0) (by decide) ?_
  refine v_put X kcX8 fl_X8_43 dX8_freeBy_2 0 rfl (ws' := [ob k 8 [.int (nI 0), .int (nI tr), .int wh, .null, va_rf rr, .ref (q 5), .int (nI (z 6)), .int (nI (z 7)), .int (nI (z 8)), .int (nI (z 9)), .int (nI (z 10)), .int nb, .int (nI (z 12)), .int wa, .long wd, .ref (q 15), .ref (q 16), .ref (q 17), .ref (q 18), .int (nI (z 19)), .int (nI (z 20)), .ref (q 21), .long (lN ev), .ref (q 23), .ref (q 24), .int (nI (z 25)), .ref (q 26), .int al, .long wl, .int (nI (z 29))]]) rfl rfl ?_
  refine v_aload_n X dX8_freeBy_5 rfl 0 rfl ?_
  refine v_aload_n X dX8_freeBy_6 rfl 0 rfl ?_
  refine v_iload_n X dX8_freeBy_7 rfl 1 rfl ?_
  refine v_roI1 X (rn_V X k_X8_isMan ml_X8_345 dX8_freeBy_8 (c_X8_isMan_n l E k 0 tr wh rr q z nb wa wd ev al wl m ) rfl 0 rfl rfl (by decide) (by decide) (by omega) (by omega) (Nat.le_of_ble_eq_true rfl)) [0] rfl rfl ?_
  refine v_iload_n X dX8_freeBy_11 rfl 2 rfl ?_
  refine v_iload_n X dX8_freeBy_12 rfl 3 rfl ?_
  refine v_roI1 X (rn_V X k_X8_refusesSeed ml_X8_462 dX8_freeBy_13 (c_X8_refusesSeed_n l E k 0 tr wh rr q z nb wa wd ev al wl sd n ) rfl 0 rfl rfl (by decide) (by decide) (by omega) (by omega) (Nat.le_of_ble_eq_true rfl)) [0] rfl rfl ?_
  refine v_istore X dX8_freeBy_16 (by decide) (lv' := [(4, .int (nI 1)), (0, .ref k), (1, .int m), (2, .int sd), (3, .int n)]) rfl ?_
  refine v_iload X dX8_freeBy_18 0 rfl ?_
  refine v_ifN_le X dX8_freeBy_20 (tgt := 30) (by decide) (by decide) (fun h20 => ?_) (fun h20 => ?_)
  · exfalso; omega
  · refine v_aload_n X dX8_freeBy_23 rfl 1 rfl ?_
    refine v_iload X dX8_freeBy_24 0 rfl ?_
    refine v_wrI1 X (rn_V X k_X8_refused ml_X8_49 dX8_freeBy_26 (c_X8_refused_n l E k 0 tr wh rr q z nb wa wd ev al wl 1 ) rfl 0 rfl rfl (by decide) (by decide) (by omega) (by omega) (Nat.le_of_ble_eq_true rfl)) [0] rfl rfl (ws' := [ob k 8 [.int (nI 0), .int (nI 1), .int (-1), .null, va_rf rr, .ref (q 5), .int (nI (z 6)), .int (nI (z 7)), .int (nI (z 8)), .int (nI (z 9)), .int (nI (z 10)), .int nb, .int (nI (z 12)), .int wa, .long wd, .ref (q 15), .ref (q 16), .ref (q 17), .ref (q 18), .int (nI (z 19)), .int (nI (z 20)), .ref (q 21), .long (lN ev), .ref (q 23), .ref (q 24), .int (nI (z 25)), .ref (q 26), .int al, .long wl, .int (nI (z 29))]]) rfl rfl ?_
    exact v_iret X Y dX8_freeBy_29 (wrI_of rfl rfl) (by omega) (by omega)
set_option maxRecDepth 100000 in
set_option maxHeartbeats 4000000 in
theorem c_X8_shaves (l : Launch) (E : Et) (k : Nat) (th : Nat) (tr : Nat) (wh : Int32) (g : Nat) (rr : Option Nat) (q : Nat → Nat) (z : Nat → Nat) (nb : Int32) (wa : Int32) (wd : Int64) (ev : Nat) (al : Int32) (wl : Int64) (ch : Nat) (s : Bool) (r : Bool) (o : Bool) (hch : ch ≤ 9) : Ct l E yX8_shaves cX8_shaves 6 (some .int) 5 0 0 [.ref k, .int (nI ch), .int (nI (s).toNat), .int (nI (r).toNat), .int (nI (o).toNat)] [ob k 8 [.int (nI th), .int (nI tr), .int wh, .ref g, va_rf rr, .ref (q 5), .int (nI (z 6)), .int (nI (z 7)), .int (nI (z 8)), .int (nI (z 9)), .int (nI (z 10)), .int nb, .int (nI (z 12)), .int wa, .long wd, .ref (q 15), .ref (q 16), .ref (q 17), .ref (q 18), .int (nI (z 19)), .int (nI (z 20)), .ref (q 21), .long (lN ev), .ref (q 23), .ref (q 24), .int (nI (z 25)), .ref (q 26), .int al, .long wl, .int (nI (z 29))]] (wrI [ob k 8 [.int (nI 0), .int (nI 0), .int (-1), .ref g, va_rf rr, .ref (q 5), .int (nI (z 6)), .int (nI (z 7)), .int (nI (z 8)), .int (nI (z 9)), .int (nI (z 10)), .int nb, .int (nI (z 12)), .int wa, .long wd, .ref (q 15), .ref (q 16), .ref (q 17), .ref (q 18), .int (nI (z 19)), .int (nI (z 20)), .ref (q 21), .long (lN ev), .ref (q 23), .ref (q 24), .int (nI (z 25)), .ref (q 26), .int al, .long wl, .int (nI (z 29))]] (gainI ch s r o)) := by
  refine Ct.intro (by decide +kernel) (Nat.le_of_ble_eq_true rfl) (lv := [(0, .ref k), (1, .int (nI ch)), (2, .int (nI (s).toNat)), (3, .int (nI (r).toNat)), (4, .int (nI (o).toNat))]) rfl ?_
  intro Z X Y
  have hw0 : (if nI 0 ≤ nI ch ∧ nI ch ≤ nI 9 then 0 else 2) = 0 := by rw [if_pos ⟨(nI_leI (by decide) (by omega)).mpr (Nat.zero_le ch), (nI_leI (by omega) (by decide)).mpr (by omega)⟩]
  refine v_aload_n X dX8_shaves_0 rfl 0 rfl ?_
  refine v_iconst X dX8_shaves_1 (v := nI 0) (by decide) ?_
  refine v_put X kcX8 fl_X8_43 dX8_shaves_2 0 rfl (ws' := [ob k 8 [.int (nI 0), .int (nI tr), .int wh, .ref g, va_rf rr, .ref (q 5), .int (nI (z 6)), .int (nI (z 7)), .int (nI (z 8)), .int (nI (z 9)), .int (nI (z 10)), .int nb, .int (nI (z 12)), .int wa, .long wd, .ref (q 15), .ref (q 16), .ref (q 17), .ref (q 18), .int (nI (z 19)), .int (nI (z 20)), .ref (q 21), .long (lN ev), .ref (q 23), .ref (q 24), .int (nI (z 25)), .ref (q 26), .int al, .long wl, .int (nI (z 29))]]) rfl rfl ?_
  refine v_aload_n X dX8_shaves_5 rfl 0 rfl ?_
  refine v_iload_n X dX8_shaves_6 rfl 1 rfl ?_
  refine v_roI1 X (rn_V X k_X8_refusesChain ml_X8_422 dX8_shaves_7 (c_X8_refusesChain l E k 0 tr wh g rr q z nb wa wd ev al wl (nI ch) ) rfl 0 rfl rfl (by decide) (by decide) (by omega) (by omega) (Nat.le_of_ble_eq_true rfl)) [0] rfl rfl ?_
  refine v_istore X dX8_shaves_10 (by decide) (lv' := [(5, .int (nI (if nI 0 ≤ (nI ch) ∧ (nI ch) ≤ nI 9 then 0 else 2))), (0, .ref k), (1, .int (nI ch)), (2, .int (nI (s).toNat)), (3, .int (nI (r).toNat)), (4, .int (nI (o).toNat))]) rfl ?_
  refine v_iload X dX8_shaves_12 0 rfl ?_
  refine v_ifN_le X dX8_shaves_14 (tgt := 26) (by decide) (by rw [hw0]; decide) (fun h14 => ?_) (fun h14 => ?_)
  · refine v_aload_n X dX8_shaves_26 rfl 1 rfl ?_
    refine v_iload X dX8_shaves_27 5 rfl ?_
    refine v_ifB_eq X dX8_shaves_29 (tgt := 40) (by decide) (fun h29 => ?_) (fun h29 => ?_)
    · refine v_iload_n X dX8_shaves_40 rfl 2 rfl ?_
      refine v_iload_n X dX8_shaves_41 rfl 3 rfl ?_
      refine v_iload_n X dX8_shaves_42 rfl 4 rfl ?_
      refine v_roI1 X (rn_S X k_X8_merchant ml_X8_432 dX8_shaves_43 (c_X8_merchant l E ch s r ) rfl (by decide) (by decide) (by omega) (by omega) (Nat.le_of_ble_eq_true rfl)) [] rfl rfl ?_
      refine v_wrI1 X (rn_V X k_X8_good ml_X8_53 dX8_shaves_46 (c_X8_good l E k 0 tr wh g rr q z nb wa wd ev al wl (gainI ch s r false) ) rfl 0 rfl rfl (by decide) (by decide) (by omega) (by omega) (Nat.le_of_ble_eq_true rfl)) [0] rfl rfl (ws' := [ob k 8 [.int (nI 0), .int (nI 0), .int (-1), .ref g, va_rf rr, .ref (q 5), .int (nI (z 6)), .int (nI (z 7)), .int (nI (z 8)), .int (nI (z 9)), .int (nI (z 10)), .int nb, .int (nI (z 12)), .int wa, .long wd, .ref (q 15), .ref (q 16), .ref (q 17), .ref (q 18), .int (nI (z 19)), .int (nI (z 20)), .ref (q 21), .long (lN ev), .ref (q 23), .ref (q 24), .int (nI (z 25)), .ref (q 26), .int al, .long wl, .int (nI (z 29))]]) rfl rfl ?_
      exact v_iret X Y dX8_shaves_49 (wrI_of rfl (by rw [h29])) (by omega) (by omega)
    · refine v_iload_n X dX8_shaves_32 rfl 3 rfl ?_
      refine v_iload_n X dX8_shaves_33 rfl 4 rfl ?_
      refine v_roI1 X (rn_S X k_X8_written ml_X8_428 dX8_shaves_34 (c_X8_written l E s r ) rfl (by decide) (by decide) (by omega) (by omega) (Nat.le_of_ble_eq_true rfl)) [] rfl rfl ?_
      refine v_goto X dX8_shaves_37 (tgt := 46) (by decide) ?_
      refine v_wrI1 X (rn_V X k_X8_good ml_X8_53 dX8_shaves_46 (c_X8_good l E k 0 tr wh g rr q z nb wa wd ev al wl (gainI 0 s r true) ) rfl 0 rfl rfl (by decide) (by decide) (by omega) (by omega) (Nat.le_of_ble_eq_true rfl)) [0] rfl rfl (ws' := [ob k 8 [.int (nI 0), .int (nI 0), .int (-1), .ref g, va_rf rr, .ref (q 5), .int (nI (z 6)), .int (nI (z 7)), .int (nI (z 8)), .int (nI (z 9)), .int (nI (z 10)), .int nb, .int (nI (z 12)), .int wa, .long wd, .ref (q 15), .ref (q 16), .ref (q 17), .ref (q 18), .int (nI (z 19)), .int (nI (z 20)), .ref (q 21), .long (lN ev), .ref (q 23), .ref (q 24), .int (nI (z 25)), .ref (q 26), .int al, .long wl, .int (nI (z 29))]]) rfl rfl ?_
      exact v_iret X Y dX8_shaves_49 (wrI_of rfl (by rw [h29]; exact gain_o ch s r)) (by omega) (by omega)
  · exact absurd h14 (by rw [hw0]; decide)
set_option maxRecDepth 100000 in
set_option maxHeartbeats 4000000 in
theorem c_X8_shaves_no2 (l : Launch) (E : Et) (k : Nat) (th : Nat) (tr : Nat) (wh : Int32) (g : Nat) (rr : Option Nat) (q : Nat → Nat) (z : Nat → Nat) (nb : Int32) (wa : Int32) (wd : Int64) (ev : Nat) (al : Int32) (wl : Int64) (ch : Int32) (s : Bool) (r : Bool) (o : Bool) (hno : ¬ (nI 0 ≤ ch ∧ ch ≤ nI 9)) : Ct l E yX8_shaves cX8_shaves 6 (some .int) 5 0 0 [.ref k, .int ch, .int (nI (s).toNat), .int (nI (r).toNat), .int (nI (o).toNat)] [ob k 8 [.int (nI th), .int (nI tr), .int wh, .ref g, va_rf rr, .ref (q 5), .int (nI (z 6)), .int (nI (z 7)), .int (nI (z 8)), .int (nI (z 9)), .int (nI (z 10)), .int nb, .int (nI (z 12)), .int wa, .long wd, .ref (q 15), .ref (q 16), .ref (q 17), .ref (q 18), .int (nI (z 19)), .int (nI (z 20)), .ref (q 21), .long (lN ev), .ref (q 23), .ref (q 24), .int (nI (z 25)), .ref (q 26), .int al, .long wl, .int (nI (z 29))]] (wrI [ob k 8 [.int (nI 0), .int (nI 2), .int (-1), .ref g, va_rf rr, .ref (q 5), .int (nI (z 6)), .int (nI (z 7)), .int (nI (z 8)), .int (nI (z 9)), .int (nI (z 10)), .int nb, .int (nI (z 12)), .int wa, .long wd, .ref (q 15), .ref (q 16), .ref (q 17), .ref (q 18), .int (nI (z 19)), .int (nI (z 20)), .ref (q 21), .long (lN ev), .ref (q 23), .ref (q 24), .int (nI (z 25)), .ref (q 26), .int al, .long wl, .int (nI (z 29))]] (-100)) := by
  refine Ct.intro (by decide +kernel) (Nat.le_of_ble_eq_true rfl) (lv := [(0, .ref k), (1, .int ch), (2, .int (nI (s).toNat)), (3, .int (nI (r).toNat)), (4, .int (nI (o).toNat))]) rfl ?_
  intro Z X Y
  have hw0 : (if nI 0 ≤ ch ∧ ch ≤ nI 9 then 0 else 2) = 2 := by rw [if_neg hno]
  refine v_aload_n X dX8_shaves_0 rfl 0 rfl ?_
  refine v_iconst X dX8_shaves_1 (v := nI 0) (by decide) ?_
  refine v_put X kcX8 fl_X8_43 dX8_shaves_2 0 rfl (ws' := [ob k 8 [.int (nI 0), .int (nI tr), .int wh, .ref g, va_rf rr, .ref (q 5), .int (nI (z 6)), .int (nI (z 7)), .int (nI (z 8)), .int (nI (z 9)), .int (nI (z 10)), .int nb, .int (nI (z 12)), .int wa, .long wd, .ref (q 15), .ref (q 16), .ref (q 17), .ref (q 18), .int (nI (z 19)), .int (nI (z 20)), .ref (q 21), .long (lN ev), .ref (q 23), .ref (q 24), .int (nI (z 25)), .ref (q 26), .int al, .long wl, .int (nI (z 29))]]) rfl rfl ?_
  refine v_aload_n X dX8_shaves_5 rfl 0 rfl ?_
  refine v_iload_n X dX8_shaves_6 rfl 1 rfl ?_
  refine v_roI1 X (rn_V X k_X8_refusesChain ml_X8_422 dX8_shaves_7 (c_X8_refusesChain l E k 0 tr wh g rr q z nb wa wd ev al wl ch ) rfl 0 rfl rfl (by decide) (by decide) (by omega) (by omega) (Nat.le_of_ble_eq_true rfl)) [0] rfl rfl ?_
  refine v_istore X dX8_shaves_10 (by decide) (lv' := [(5, .int (nI (if nI 0 ≤ ch ∧ ch ≤ nI 9 then 0 else 2))), (0, .ref k), (1, .int ch), (2, .int (nI (s).toNat)), (3, .int (nI (r).toNat)), (4, .int (nI (o).toNat))]) rfl ?_
  refine v_iload X dX8_shaves_12 0 rfl ?_
  refine v_ifN_le X dX8_shaves_14 (tgt := 26) (by decide) (by rw [hw0]; decide) (fun h14 => ?_) (fun h14 => ?_)
  · exact absurd h14 (by rw [hw0]; decide)
  · refine v_aload_n X dX8_shaves_17 rfl 1 rfl ?_
    refine v_iload X dX8_shaves_18 0 rfl ?_
    refine v_wrI1 X (rn_V X k_X8_lost ml_X8_425 dX8_shaves_20 (c_X8_lost l E k 0 tr wh g rr q z nb wa wd ev al wl (if nI 0 ≤ ch ∧ ch ≤ nI 9 then 0 else 2) ) rfl 0 rfl rfl (by decide) (by decide) (by omega) (by omega) (Nat.le_of_ble_eq_true rfl)) [0] rfl rfl (ws' := [ob k 8 [.int (nI 0), .int (nI (if nI 0 ≤ ch ∧ ch ≤ nI 9 then 0 else 2)), .int (-1), .ref g, va_rf rr, .ref (q 5), .int (nI (z 6)), .int (nI (z 7)), .int (nI (z 8)), .int (nI (z 9)), .int (nI (z 10)), .int nb, .int (nI (z 12)), .int wa, .long wd, .ref (q 15), .ref (q 16), .ref (q 17), .ref (q 18), .int (nI (z 19)), .int (nI (z 20)), .ref (q 21), .long (lN ev), .ref (q 23), .ref (q 24), .int (nI (z 25)), .ref (q 26), .int al, .long wl, .int (nI (z 29))]]) rfl rfl ?_
    refine v_goto X dX8_shaves_23 (tgt := 49) (by decide) ?_
    exact v_iret X Y dX8_shaves_49 (wrI_of (by rw [hw0]) rfl) (by omega) (by omega)
set_option maxRecDepth 100000 in
set_option maxHeartbeats 4000000 in
theorem c_X8_shaves_n (l : Launch) (E : Et) (k : Nat) (th : Nat) (tr : Nat) (wh : Int32) (rr : Option Nat) (q : Nat → Nat) (z : Nat → Nat) (nb : Int32) (wa : Int32) (wd : Int64) (ev : Nat) (al : Int32) (wl : Int64) (ch : Int32) (s : Bool) (r : Bool) (o : Bool)  : Ct l E yX8_shaves cX8_shaves 6 (some .int) 5 0 0 [.ref k, .int ch, .int (nI (s).toNat), .int (nI (r).toNat), .int (nI (o).toNat)] [ob k 8 [.int (nI th), .int (nI tr), .int wh, .null, va_rf rr, .ref (q 5), .int (nI (z 6)), .int (nI (z 7)), .int (nI (z 8)), .int (nI (z 9)), .int (nI (z 10)), .int nb, .int (nI (z 12)), .int wa, .long wd, .ref (q 15), .ref (q 16), .ref (q 17), .ref (q 18), .int (nI (z 19)), .int (nI (z 20)), .ref (q 21), .long (lN ev), .ref (q 23), .ref (q 24), .int (nI (z 25)), .ref (q 26), .int al, .long wl, .int (nI (z 29))]] (wrI [ob k 8 [.int (nI 0), .int (nI 1), .int (-1), .null, va_rf rr, .ref (q 5), .int (nI (z 6)), .int (nI (z 7)), .int (nI (z 8)), .int (nI (z 9)), .int (nI (z 10)), .int nb, .int (nI (z 12)), .int wa, .long wd, .ref (q 15), .ref (q 16), .ref (q 17), .ref (q 18), .int (nI (z 19)), .int (nI (z 20)), .ref (q 21), .long (lN ev), .ref (q 23), .ref (q 24), .int (nI (z 25)), .ref (q 26), .int al, .long wl, .int (nI (z 29))]] (-100)) := by
  refine Ct.intro (by decide +kernel) (Nat.le_of_ble_eq_true rfl) (lv := [(0, .ref k), (1, .int ch), (2, .int (nI (s).toNat)), (3, .int (nI (r).toNat)), (4, .int (nI (o).toNat))]) rfl ?_
  intro Z X Y
  refine v_aload_n X dX8_shaves_0 rfl 0 rfl ?_
  refine v_iconst X dX8_shaves_1 (v := nI 0) (by decide) ?_
  refine v_put X kcX8 fl_X8_43 dX8_shaves_2 0 rfl (ws' := [ob k 8 [.int (nI 0), .int (nI tr), .int wh, .null, va_rf rr, .ref (q 5), .int (nI (z 6)), .int (nI (z 7)), .int (nI (z 8)), .int (nI (z 9)), .int (nI (z 10)), .int nb, .int (nI (z 12)), .int wa, .long wd, .ref (q 15), .ref (q 16), .ref (q 17), .ref (q 18), .int (nI (z 19)), .int (nI (z 20)), .ref (q 21), .long (lN ev), .ref (q 23), .ref (q 24), .int (nI (z 25)), .ref (q 26), .int al, .long wl, .int (nI (z 29))]]) rfl rfl ?_
  refine v_aload_n X dX8_shaves_5 rfl 0 rfl ?_
  refine v_iload_n X dX8_shaves_6 rfl 1 rfl ?_
  refine v_roI1 X (rn_V X k_X8_refusesChain ml_X8_422 dX8_shaves_7 (c_X8_refusesChain_n l E k 0 tr wh rr q z nb wa wd ev al wl ch ) rfl 0 rfl rfl (by decide) (by decide) (by omega) (by omega) (Nat.le_of_ble_eq_true rfl)) [0] rfl rfl ?_
  refine v_istore X dX8_shaves_10 (by decide) (lv' := [(5, .int (nI 1)), (0, .ref k), (1, .int ch), (2, .int (nI (s).toNat)), (3, .int (nI (r).toNat)), (4, .int (nI (o).toNat))]) rfl ?_
  refine v_iload X dX8_shaves_12 0 rfl ?_
  refine v_ifN_le X dX8_shaves_14 (tgt := 26) (by decide) (by decide) (fun h14 => ?_) (fun h14 => ?_)
  · exfalso; omega
  · refine v_aload_n X dX8_shaves_17 rfl 1 rfl ?_
    refine v_iload X dX8_shaves_18 0 rfl ?_
    refine v_wrI1 X (rn_V X k_X8_lost ml_X8_425 dX8_shaves_20 (c_X8_lost_n l E k 0 tr wh rr q z nb wa wd ev al wl 1 ) rfl 0 rfl rfl (by decide) (by decide) (by omega) (by omega) (Nat.le_of_ble_eq_true rfl)) [0] rfl rfl (ws' := [ob k 8 [.int (nI 0), .int (nI 1), .int (-1), .null, va_rf rr, .ref (q 5), .int (nI (z 6)), .int (nI (z 7)), .int (nI (z 8)), .int (nI (z 9)), .int (nI (z 10)), .int nb, .int (nI (z 12)), .int wa, .long wd, .ref (q 15), .ref (q 16), .ref (q 17), .ref (q 18), .int (nI (z 19)), .int (nI (z 20)), .ref (q 21), .long (lN ev), .ref (q 23), .ref (q 24), .int (nI (z 25)), .ref (q 26), .int al, .long wl, .int (nI (z 29))]]) rfl rfl ?_
    refine v_goto X dX8_shaves_23 (tgt := 49) (by decide) ?_
    exact v_iret X Y dX8_shaves_49 (wrI_of rfl rfl) (by omega) (by omega)
set_option maxRecDepth 100000 in
set_option maxHeartbeats 4000000 in
theorem c_X8_rests (l : Launch) (E : Et) (k : Nat) (th : Nat) (tr : Nat) (wh : Int32) (g : Nat) (rr : Option Nat) (q : Nat → Nat) (z : Nat → Nat) (nb : Int32) (wa : Int32) (wd : Int64) (ev : Nat) (al : Int32) (wl : Int64) (ch : Nat) (hch : ch ≤ 9) : Ct l E yX8_rests cX8_rests 5 (some .int) 5 0 0 [.ref k, .int (nI ch)] [ob k 8 [.int (nI th), .int (nI tr), .int wh, .ref g, va_rf rr, .ref (q 5), .int (nI (z 6)), .int (nI (z 7)), .int (nI (z 8)), .int (nI (z 9)), .int (nI (z 10)), .int nb, .int (nI (z 12)), .int wa, .long wd, .ref (q 15), .ref (q 16), .ref (q 17), .ref (q 18), .int (nI (z 19)), .int (nI (z 20)), .ref (q 21), .long (lN ev), .ref (q 23), .ref (q 24), .int (nI (z 25)), .ref (q 26), .int al, .long wl, .int (nI (z 29))]] (wrI [ob k 8 [.int (nI 0), .int (nI 0), .int (-1), .ref g, va_rf rr, .ref (q 5), .int (nI (z 6)), .int (nI (z 7)), .int (nI (z 8)), .int (nI (z 9)), .int (nI (z 10)), .int nb, .int (nI (z 12)), .int wa, .long wd, .ref (q 15), .ref (q 16), .ref (q 17), .ref (q 18), .int (nI (z 19)), .int (nI (z 20)), .ref (q 21), .long (lN ev), .ref (q 23), .ref (q 24), .int (nI (z 25)), .ref (q 26), .int al, .long wl, .int (nI (z 29))]] (nI (cnt (isRestB ch) 4))) := by
  refine Ct.intro (by decide +kernel) (Nat.le_of_ble_eq_true rfl) (lv := [(0, .ref k), (1, .int (nI ch))]) rfl ?_
  intro Z X Y
  have hw0 : (if nI 0 ≤ nI ch ∧ nI ch ≤ nI 9 then 0 else 2) = 0 := by rw [if_pos ⟨(nI_leI (by decide) (by omega)).mpr (Nat.zero_le ch), (nI_leI (by omega) (by decide)).mpr (by omega)⟩]
  refine v_aload_n X dX8_rests_0 rfl 0 rfl ?_
  refine v_iconst X dX8_rests_1 (v := nI 0) (by decide) ?_
  refine v_put X kcX8 fl_X8_43 dX8_rests_2 0 rfl (ws' := [ob k 8 [.int (nI 0), .int (nI tr), .int wh, .ref g, va_rf rr, .ref (q 5), .int (nI (z 6)), .int (nI (z 7)), .int (nI (z 8)), .int (nI (z 9)), .int (nI (z 10)), .int nb, .int (nI (z 12)), .int wa, .long wd, .ref (q 15), .ref (q 16), .ref (q 17), .ref (q 18), .int (nI (z 19)), .int (nI (z 20)), .ref (q 21), .long (lN ev), .ref (q 23), .ref (q 24), .int (nI (z 25)), .ref (q 26), .int al, .long wl, .int (nI (z 29))]]) rfl rfl ?_
  refine v_aload_n X dX8_rests_5 rfl 0 rfl ?_
  refine v_iload_n X dX8_rests_6 rfl 1 rfl ?_
  refine v_roI1 X (rn_V X k_X8_refusesChain ml_X8_422 dX8_rests_7 (c_X8_refusesChain l E k 0 tr wh g rr q z nb wa wd ev al wl (nI ch) ) rfl 0 rfl rfl (by decide) (by decide) (by omega) (by omega) (Nat.le_of_ble_eq_true rfl)) [0] rfl rfl ?_
  refine v_istore_n X dX8_rests_10 rfl (by decide) (lv' := [(2, .int (nI (if nI 0 ≤ (nI ch) ∧ (nI ch) ≤ nI 9 then 0 else 2))), (0, .ref k), (1, .int (nI ch))]) rfl ?_
  refine v_iload_n X dX8_rests_11 rfl 0 rfl ?_
  refine v_ifN_le X dX8_rests_12 (tgt := 21) (by decide) (by rw [hw0]; decide) (fun h12 => ?_) (fun h12 => ?_)
  · refine v_iconst X dX8_rests_21 (v := nI 0) (by decide) ?_
    refine v_istore_n X dX8_rests_22 rfl (by decide) (lv' := [(3, .int (nI 0)), (2, .int (nI (if nI 0 ≤ (nI ch) ∧ (nI ch) ≤ nI 9 then 0 else 2))), (0, .ref k), (1, .int (nI ch))]) rfl ?_
    refine v_iconst X dX8_rests_23 (v := nI 0) (by decide) ?_
    refine v_istore X dX8_rests_24 (by decide) (lv' := [(4, .int (nI 0)), (3, .int (nI 0)), (2, .int (nI (if nI 0 ≤ (nI ch) ∧ (nI ch) ≤ nI 9 then 0 else 2))), (0, .ref k), (1, .int (nI ch))]) rfl ?_
    have L26 : ∀ (j26 : Nat) (vp : Nat) (vn : Nat), (vp ≤ 4 ∧ vn = cnt (isRestB ch) vp) → 4 - vp < j26 → V E Z 26 [(0, .ref k), (1, .int (nI ch)), (2, .int (nI (if nI 0 ≤ (nI ch) ∧ (nI ch) ≤ nI 9 then 0 else 2))), (3, .int (nI vn)), (4, .int (nI vp))] [] [ob k 8 [.int (nI 0), .int (nI tr), .int wh, .ref g, va_rf rr, .ref (q 5), .int (nI (z 6)), .int (nI (z 7)), .int (nI (z 8)), .int (nI (z 9)), .int (nI (z 10)), .int nb, .int (nI (z 12)), .int wa, .long wd, .ref (q 15), .ref (q 16), .ref (q 17), .ref (q 18), .int (nI (z 19)), .int (nI (z 20)), .ref (q 21), .long (lN ev), .ref (q 23), .ref (q 24), .int (nI (z 25)), .ref (q 26), .int al, .long wl, .int (nI (z 29))]] 0 0 := by
      intro j26
      induction j26 with
      | zero => intro vp vn hI hM; exact absurd hM (Nat.not_lt_zero _)
      | succ j26 ih26 =>
        intro vp vn hI26 hM26
        obtain ⟨hc, hb⟩ := id hI26
        refine v_iload X dX8_rests_26 4 rfl ?_
        refine v_iconst X dX8_rests_28 (v := nI 4) (by decide) ?_
        refine v_icmpN_ge X dX8_rests_29 (tgt := 55) (by decide) (by omega) (by decide) (fun h29 => ?_) (fun h29 => ?_)
        · refine v_aload_n X dX8_rests_55 rfl 0 rfl ?_
          refine v_iload_n X dX8_rests_56 rfl 3 rfl ?_
          refine v_wrI1 X (rn_V X k_X8_good ml_X8_53 dX8_rests_57 (c_X8_good l E k 0 tr wh g rr q z nb wa wd ev al wl (nI vn) ) rfl 0 rfl rfl (by decide) (by decide) (by omega) (by omega) (Nat.le_of_ble_eq_true rfl)) [0] rfl rfl (ws' := [ob k 8 [.int (nI 0), .int (nI 0), .int (-1), .ref g, va_rf rr, .ref (q 5), .int (nI (z 6)), .int (nI (z 7)), .int (nI (z 8)), .int (nI (z 9)), .int (nI (z 10)), .int nb, .int (nI (z 12)), .int wa, .long wd, .ref (q 15), .ref (q 16), .ref (q 17), .ref (q 18), .int (nI (z 19)), .int (nI (z 20)), .ref (q 21), .long (lN ev), .ref (q 23), .ref (q 24), .int (nI (z 25)), .ref (q 26), .int al, .long wl, .int (nI (z 29))]]) rfl rfl ?_
          exact v_iret X Y dX8_rests_60 (wrI_of rfl (by rw [hb, show vp = 4 by omega])) (by omega) (by omega)
        · refine v_iload_n X dX8_rests_32 rfl 3 rfl ?_
          refine v_iload_n X dX8_rests_33 rfl 1 rfl ?_
          refine v_iload X dX8_rests_34 4 rfl ?_
          refine v_roI1 X (rn_S X k_X8_isRest ml_X8_436 dX8_rests_36 (c_X8_isRest l E ch vp (by first | assumption | omega)) rfl (by decide) (by decide) (by omega) (by omega) (Nat.le_of_ble_eq_true rfl)) [] rfl rfl ?_
          refine v_ifB_eq X dX8_rests_39 (tgt := 46) (by decide) (fun h39 => ?_) (fun h39 => ?_)
          · refine v_iconst X dX8_rests_46 (v := nI 0) (by decide) ?_
            refine v_iadd X dX8_rests_47 ?_
            refine v_eqi (x' := nI (vn + 0)) (nI_add _ _) ?_
            refine v_istore_n X dX8_rests_48 rfl (by decide) (lv' := [(3, .int (nI (vn + 0))), (0, .ref k), (1, .int (nI ch)), (2, .int (nI (if nI 0 ≤ (nI ch) ∧ (nI ch) ≤ nI 9 then 0 else 2))), (4, .int (nI vp))]) rfl ?_
            refine v_iinc X dX8_rests_49 4 rfl (v := nI (vp + 1)) (nI_inc vp) (by decide) (lv' := [(4, .int (nI (vp + 1))), (3, .int (nI (vn + 0))), (0, .ref k), (1, .int (nI ch)), (2, .int (nI (if nI 0 ≤ (nI ch) ∧ (nI ch) ≤ nI 9 then 0 else 2)))]) rfl ?_
            refine v_goto X dX8_rests_52 (tgt := 26) (by decide) ?_
            refine V.lvs [2, 3, 4, 1, 0] rfl ?_
            exact ih26 (vp + 1) (vn + 0) (⟨by omega, by rw [hb, cnt, h39]; simp⟩) (by omega)
          · refine v_iconst X dX8_rests_42 (v := nI 1) (by decide) ?_
            refine v_goto X dX8_rests_43 (tgt := 47) (by decide) ?_
            refine v_iadd X dX8_rests_47 ?_
            refine v_eqi (x' := nI (vn + 1)) (nI_add _ _) ?_
            refine v_istore_n X dX8_rests_48 rfl (by decide) (lv' := [(3, .int (nI (vn + 1))), (0, .ref k), (1, .int (nI ch)), (2, .int (nI (if nI 0 ≤ (nI ch) ∧ (nI ch) ≤ nI 9 then 0 else 2))), (4, .int (nI vp))]) rfl ?_
            refine v_iinc X dX8_rests_49 4 rfl (v := nI (vp + 1)) (nI_inc vp) (by decide) (lv' := [(4, .int (nI (vp + 1))), (3, .int (nI (vn + 1))), (0, .ref k), (1, .int (nI ch)), (2, .int (nI (if nI 0 ≤ (nI ch) ∧ (nI ch) ≤ nI 9 then 0 else 2)))]) rfl ?_
            refine v_goto X dX8_rests_52 (tgt := 26) (by decide) ?_
            refine V.lvs [2, 3, 4, 1, 0] rfl ?_
            exact ih26 (vp + 1) (vn + 1) (⟨by omega, by rw [hb, cnt, h39]; simp⟩) (by omega)
    refine V.lvs [3, 4, 2, 1, 0] rfl ?_
    exact L26 _ 0 0 (⟨by omega, rfl⟩) (Nat.lt_succ_self _)
  · exact absurd h12 (by rw [hw0]; decide)
set_option maxRecDepth 100000 in
set_option maxHeartbeats 4000000 in
theorem c_X8_rests_no2 (l : Launch) (E : Et) (k : Nat) (th : Nat) (tr : Nat) (wh : Int32) (g : Nat) (rr : Option Nat) (q : Nat → Nat) (z : Nat → Nat) (nb : Int32) (wa : Int32) (wd : Int64) (ev : Nat) (al : Int32) (wl : Int64) (ch : Int32) (hno : ¬ (nI 0 ≤ ch ∧ ch ≤ nI 9)) : Ct l E yX8_rests cX8_rests 5 (some .int) 5 0 0 [.ref k, .int ch] [ob k 8 [.int (nI th), .int (nI tr), .int wh, .ref g, va_rf rr, .ref (q 5), .int (nI (z 6)), .int (nI (z 7)), .int (nI (z 8)), .int (nI (z 9)), .int (nI (z 10)), .int nb, .int (nI (z 12)), .int wa, .long wd, .ref (q 15), .ref (q 16), .ref (q 17), .ref (q 18), .int (nI (z 19)), .int (nI (z 20)), .ref (q 21), .long (lN ev), .ref (q 23), .ref (q 24), .int (nI (z 25)), .ref (q 26), .int al, .long wl, .int (nI (z 29))]] (wrI [ob k 8 [.int (nI 0), .int (nI 2), .int (-1), .ref g, va_rf rr, .ref (q 5), .int (nI (z 6)), .int (nI (z 7)), .int (nI (z 8)), .int (nI (z 9)), .int (nI (z 10)), .int nb, .int (nI (z 12)), .int wa, .long wd, .ref (q 15), .ref (q 16), .ref (q 17), .ref (q 18), .int (nI (z 19)), .int (nI (z 20)), .ref (q 21), .long (lN ev), .ref (q 23), .ref (q 24), .int (nI (z 25)), .ref (q 26), .int al, .long wl, .int (nI (z 29))]] (-1)) := by
  refine Ct.intro (by decide +kernel) (Nat.le_of_ble_eq_true rfl) (lv := [(0, .ref k), (1, .int ch)]) rfl ?_
  intro Z X Y
  have hw0 : (if nI 0 ≤ ch ∧ ch ≤ nI 9 then 0 else 2) = 2 := by rw [if_neg hno]
  refine v_aload_n X dX8_rests_0 rfl 0 rfl ?_
  refine v_iconst X dX8_rests_1 (v := nI 0) (by decide) ?_
  refine v_put X kcX8 fl_X8_43 dX8_rests_2 0 rfl (ws' := [ob k 8 [.int (nI 0), .int (nI tr), .int wh, .ref g, va_rf rr, .ref (q 5), .int (nI (z 6)), .int (nI (z 7)), .int (nI (z 8)), .int (nI (z 9)), .int (nI (z 10)), .int nb, .int (nI (z 12)), .int wa, .long wd, .ref (q 15), .ref (q 16), .ref (q 17), .ref (q 18), .int (nI (z 19)), .int (nI (z 20)), .ref (q 21), .long (lN ev), .ref (q 23), .ref (q 24), .int (nI (z 25)), .ref (q 26), .int al, .long wl, .int (nI (z 29))]]) rfl rfl ?_
  refine v_aload_n X dX8_rests_5 rfl 0 rfl ?_
  refine v_iload_n X dX8_rests_6 rfl 1 rfl ?_
  refine v_roI1 X (rn_V X k_X8_refusesChain ml_X8_422 dX8_rests_7 (c_X8_refusesChain l E k 0 tr wh g rr q z nb wa wd ev al wl ch ) rfl 0 rfl rfl (by decide) (by decide) (by omega) (by omega) (Nat.le_of_ble_eq_true rfl)) [0] rfl rfl ?_
  refine v_istore_n X dX8_rests_10 rfl (by decide) (lv' := [(2, .int (nI (if nI 0 ≤ ch ∧ ch ≤ nI 9 then 0 else 2))), (0, .ref k), (1, .int ch)]) rfl ?_
  refine v_iload_n X dX8_rests_11 rfl 0 rfl ?_
  refine v_ifN_le X dX8_rests_12 (tgt := 21) (by decide) (by rw [hw0]; decide) (fun h12 => ?_) (fun h12 => ?_)
  · exact absurd h12 (by rw [hw0]; decide)
  · refine v_aload_n X dX8_rests_15 rfl 1 rfl ?_
    refine v_iload_n X dX8_rests_16 rfl 0 rfl ?_
    refine v_wrI1 X (rn_V X k_X8_refused ml_X8_49 dX8_rests_17 (c_X8_refused l E k 0 tr wh g rr q z nb wa wd ev al wl (if nI 0 ≤ ch ∧ ch ≤ nI 9 then 0 else 2) ) rfl 0 rfl rfl (by decide) (by decide) (by omega) (by omega) (Nat.le_of_ble_eq_true rfl)) [0] rfl rfl (ws' := [ob k 8 [.int (nI 0), .int (nI (if nI 0 ≤ ch ∧ ch ≤ nI 9 then 0 else 2)), .int (-1), .ref g, va_rf rr, .ref (q 5), .int (nI (z 6)), .int (nI (z 7)), .int (nI (z 8)), .int (nI (z 9)), .int (nI (z 10)), .int nb, .int (nI (z 12)), .int wa, .long wd, .ref (q 15), .ref (q 16), .ref (q 17), .ref (q 18), .int (nI (z 19)), .int (nI (z 20)), .ref (q 21), .long (lN ev), .ref (q 23), .ref (q 24), .int (nI (z 25)), .ref (q 26), .int al, .long wl, .int (nI (z 29))]]) rfl rfl ?_
    exact v_iret X Y dX8_rests_20 (wrI_of (by rw [hw0]) rfl) (by omega) (by omega)
set_option maxRecDepth 100000 in
set_option maxHeartbeats 4000000 in
theorem c_X8_rests_n (l : Launch) (E : Et) (k : Nat) (th : Nat) (tr : Nat) (wh : Int32) (rr : Option Nat) (q : Nat → Nat) (z : Nat → Nat) (nb : Int32) (wa : Int32) (wd : Int64) (ev : Nat) (al : Int32) (wl : Int64) (ch : Int32)  : Ct l E yX8_rests cX8_rests 5 (some .int) 5 0 0 [.ref k, .int ch] [ob k 8 [.int (nI th), .int (nI tr), .int wh, .null, va_rf rr, .ref (q 5), .int (nI (z 6)), .int (nI (z 7)), .int (nI (z 8)), .int (nI (z 9)), .int (nI (z 10)), .int nb, .int (nI (z 12)), .int wa, .long wd, .ref (q 15), .ref (q 16), .ref (q 17), .ref (q 18), .int (nI (z 19)), .int (nI (z 20)), .ref (q 21), .long (lN ev), .ref (q 23), .ref (q 24), .int (nI (z 25)), .ref (q 26), .int al, .long wl, .int (nI (z 29))]] (wrI [ob k 8 [.int (nI 0), .int (nI 1), .int (-1), .null, va_rf rr, .ref (q 5), .int (nI (z 6)), .int (nI (z 7)), .int (nI (z 8)), .int (nI (z 9)), .int (nI (z 10)), .int nb, .int (nI (z 12)), .int wa, .long wd, .ref (q 15), .ref (q 16), .ref (q 17), .ref (q 18), .int (nI (z 19)), .int (nI (z 20)), .ref (q 21), .long (lN ev), .ref (q 23), .ref (q 24), .int (nI (z 25)), .ref (q 26), .int al, .long wl, .int (nI (z 29))]] (-1)) := by
  refine Ct.intro (by decide +kernel) (Nat.le_of_ble_eq_true rfl) (lv := [(0, .ref k), (1, .int ch)]) rfl ?_
  intro Z X Y
  refine v_aload_n X dX8_rests_0 rfl 0 rfl ?_
  refine v_iconst X dX8_rests_1 (v := nI 0) (by decide) ?_
  refine v_put X kcX8 fl_X8_43 dX8_rests_2 0 rfl (ws' := [ob k 8 [.int (nI 0), .int (nI tr), .int wh, .null, va_rf rr, .ref (q 5), .int (nI (z 6)), .int (nI (z 7)), .int (nI (z 8)), .int (nI (z 9)), .int (nI (z 10)), .int nb, .int (nI (z 12)), .int wa, .long wd, .ref (q 15), .ref (q 16), .ref (q 17), .ref (q 18), .int (nI (z 19)), .int (nI (z 20)), .ref (q 21), .long (lN ev), .ref (q 23), .ref (q 24), .int (nI (z 25)), .ref (q 26), .int al, .long wl, .int (nI (z 29))]]) rfl rfl ?_
  refine v_aload_n X dX8_rests_5 rfl 0 rfl ?_
  refine v_iload_n X dX8_rests_6 rfl 1 rfl ?_
  refine v_roI1 X (rn_V X k_X8_refusesChain ml_X8_422 dX8_rests_7 (c_X8_refusesChain_n l E k 0 tr wh rr q z nb wa wd ev al wl ch ) rfl 0 rfl rfl (by decide) (by decide) (by omega) (by omega) (Nat.le_of_ble_eq_true rfl)) [0] rfl rfl ?_
  refine v_istore_n X dX8_rests_10 rfl (by decide) (lv' := [(2, .int (nI 1)), (0, .ref k), (1, .int ch)]) rfl ?_
  refine v_iload_n X dX8_rests_11 rfl 0 rfl ?_
  refine v_ifN_le X dX8_rests_12 (tgt := 21) (by decide) (by decide) (fun h12 => ?_) (fun h12 => ?_)
  · exfalso; omega
  · refine v_aload_n X dX8_rests_15 rfl 1 rfl ?_
    refine v_iload_n X dX8_rests_16 rfl 0 rfl ?_
    refine v_wrI1 X (rn_V X k_X8_refused ml_X8_49 dX8_rests_17 (c_X8_refused_n l E k 0 tr wh rr q z nb wa wd ev al wl 1 ) rfl 0 rfl rfl (by decide) (by decide) (by omega) (by omega) (Nat.le_of_ble_eq_true rfl)) [0] rfl rfl (ws' := [ob k 8 [.int (nI 0), .int (nI 1), .int (-1), .null, va_rf rr, .ref (q 5), .int (nI (z 6)), .int (nI (z 7)), .int (nI (z 8)), .int (nI (z 9)), .int (nI (z 10)), .int nb, .int (nI (z 12)), .int wa, .long wd, .ref (q 15), .ref (q 16), .ref (q 17), .ref (q 18), .int (nI (z 19)), .int (nI (z 20)), .ref (q 21), .long (lN ev), .ref (q 23), .ref (q 24), .int (nI (z 25)), .ref (q 26), .int al, .long wl, .int (nI (z 29))]]) rfl rfl ?_
    exact v_iret X Y dX8_rests_20 (wrI_of rfl rfl) (by omega) (by omega)
set_option maxRecDepth 100000 in
set_option maxHeartbeats 4000000 in
theorem c_X8_rest (l : Launch) (E : Et) (k : Nat) (th : Nat) (tr : Nat) (wh : Int32) (g : Nat) (rr : Option Nat) (q : Nat → Nat) (z : Nat → Nat) (nb : Int32) (wa : Int32) (wd : Int64) (ev : Nat) (al : Int32) (wl : Int64) (ch : Nat) (hch : ch ≤ 9) : Ct l E yX8_rest cX8_rest 4 (some .int) 5 0 0 [.ref k, .int (nI ch)] [ob k 8 [.int (nI th), .int (nI tr), .int wh, .ref g, va_rf rr, .ref (q 5), .int (nI (z 6)), .int (nI (z 7)), .int (nI (z 8)), .int (nI (z 9)), .int (nI (z 10)), .int nb, .int (nI (z 12)), .int wa, .long wd, .ref (q 15), .ref (q 16), .ref (q 17), .ref (q 18), .int (nI (z 19)), .int (nI (z 20)), .ref (q 21), .long (lN ev), .ref (q 23), .ref (q 24), .int (nI (z 25)), .ref (q 26), .int al, .long wl, .int (nI (z 29))]] (wrI [ob k 8 [.int (nI 0), .int (nI 0), .int (-1), .ref g, va_rf rr, .ref (q 5), .int (nI (z 6)), .int (nI (z 7)), .int (nI (z 8)), .int (nI (z 9)), .int (nI (z 10)), .int nb, .int (nI (z 12)), .int wa, .long wd, .ref (q 15), .ref (q 16), .ref (q 17), .ref (q 18), .int (nI (z 19)), .int (nI (z 20)), .ref (q 21), .long (lN ev), .ref (q 23), .ref (q 24), .int (nI (z 25)), .ref (q 26), .int al, .long wl, .int (nI (z 29))]] (restV (fst_ (isRestB ch) 4 0))) := by
  refine Ct.intro (by decide +kernel) (Nat.le_of_ble_eq_true rfl) (lv := [(0, .ref k), (1, .int (nI ch))]) rfl ?_
  intro Z X Y
  have hw0 : (if nI 0 ≤ nI ch ∧ nI ch ≤ nI 9 then 0 else 2) = 0 := by rw [if_pos ⟨(nI_leI (by decide) (by omega)).mpr (Nat.zero_le ch), (nI_leI (by omega) (by decide)).mpr (by omega)⟩]
  refine v_aload_n X dX8_rest_0 rfl 0 rfl ?_
  refine v_iconst X dX8_rest_1 (v := nI 0) (by decide) ?_
  refine v_put X kcX8 fl_X8_43 dX8_rest_2 0 rfl (ws' := [ob k 8 [.int (nI 0), .int (nI tr), .int wh, .ref g, va_rf rr, .ref (q 5), .int (nI (z 6)), .int (nI (z 7)), .int (nI (z 8)), .int (nI (z 9)), .int (nI (z 10)), .int nb, .int (nI (z 12)), .int wa, .long wd, .ref (q 15), .ref (q 16), .ref (q 17), .ref (q 18), .int (nI (z 19)), .int (nI (z 20)), .ref (q 21), .long (lN ev), .ref (q 23), .ref (q 24), .int (nI (z 25)), .ref (q 26), .int al, .long wl, .int (nI (z 29))]]) rfl rfl ?_
  refine v_aload_n X dX8_rest_5 rfl 0 rfl ?_
  refine v_iload_n X dX8_rest_6 rfl 1 rfl ?_
  refine v_roI1 X (rn_V X k_X8_refusesChain ml_X8_422 dX8_rest_7 (c_X8_refusesChain l E k 0 tr wh g rr q z nb wa wd ev al wl (nI ch) ) rfl 0 rfl rfl (by decide) (by decide) (by omega) (by omega) (Nat.le_of_ble_eq_true rfl)) [0] rfl rfl ?_
  refine v_istore_n X dX8_rest_10 rfl (by decide) (lv' := [(2, .int (nI (if nI 0 ≤ (nI ch) ∧ (nI ch) ≤ nI 9 then 0 else 2))), (0, .ref k), (1, .int (nI ch))]) rfl ?_
  refine v_iload_n X dX8_rest_11 rfl 0 rfl ?_
  refine v_ifN_le X dX8_rest_12 (tgt := 21) (by decide) (by rw [hw0]; decide) (fun h12 => ?_) (fun h12 => ?_)
  · refine v_iconst X dX8_rest_21 (v := nI 0) (by decide) ?_
    refine v_istore_n X dX8_rest_22 rfl (by decide) (lv' := [(3, .int (nI 0)), (2, .int (nI (if nI 0 ≤ (nI ch) ∧ (nI ch) ≤ nI 9 then 0 else 2))), (0, .ref k), (1, .int (nI ch))]) rfl ?_
    have L23 : ∀ (j23 : Nat) (vp : Nat), (vp ≤ 4 ∧ fst_ (isRestB ch) 4 0 = fst_ (isRestB ch) (4 - vp) vp) → 4 - vp < j23 → V E Z 23 [(0, .ref k), (1, .int (nI ch)), (2, .int (nI (if nI 0 ≤ (nI ch) ∧ (nI ch) ≤ nI 9 then 0 else 2))), (3, .int (nI vp))] [] [ob k 8 [.int (nI 0), .int (nI tr), .int wh, .ref g, va_rf rr, .ref (q 5), .int (nI (z 6)), .int (nI (z 7)), .int (nI (z 8)), .int (nI (z 9)), .int (nI (z 10)), .int nb, .int (nI (z 12)), .int wa, .long wd, .ref (q 15), .ref (q 16), .ref (q 17), .ref (q 18), .int (nI (z 19)), .int (nI (z 20)), .ref (q 21), .long (lN ev), .ref (q 23), .ref (q 24), .int (nI (z 25)), .ref (q 26), .int al, .long wl, .int (nI (z 29))]] 0 0 := by
      intro j23
      induction j23 with
      | zero => intro vp hI hM; exact absurd hM (Nat.not_lt_zero _)
      | succ j23 ih23 =>
        intro vp hI23 hM23
        obtain ⟨hc, hq⟩ := id hI23
        refine v_iload_n X dX8_rest_23 rfl 3 rfl ?_
        refine v_iconst X dX8_rest_24 (v := nI 4) (by decide) ?_
        refine v_icmpN_ge X dX8_rest_25 (tgt := 57) (by decide) (by omega) (by decide) (fun h25 => ?_) (fun h25 => ?_)
        · refine v_aload_n X dX8_rest_57 rfl 0 rfl ?_
          refine v_bipush X dX8_rest_58 (v := (-2)) (by decide) ?_
          refine v_wrI1 X (rn_V X k_X8_good ml_X8_53 dX8_rest_60 (c_X8_good l E k 0 tr wh g rr q z nb wa wd ev al wl (-2) ) rfl 0 rfl rfl (by decide) (by decide) (by omega) (by omega) (Nat.le_of_ble_eq_true rfl)) [0] rfl rfl (ws' := [ob k 8 [.int (nI 0), .int (nI 0), .int (-1), .ref g, va_rf rr, .ref (q 5), .int (nI (z 6)), .int (nI (z 7)), .int (nI (z 8)), .int (nI (z 9)), .int (nI (z 10)), .int nb, .int (nI (z 12)), .int wa, .long wd, .ref (q 15), .ref (q 16), .ref (q 17), .ref (q 18), .int (nI (z 19)), .int (nI (z 20)), .ref (q 21), .long (lN ev), .ref (q 23), .ref (q 24), .int (nI (z 25)), .ref (q 26), .int al, .long wl, .int (nI (z 29))]]) rfl rfl ?_
          exact v_iret X Y dX8_rest_63 (wrI_of rfl (by rw [hq, show 4 - vp = 0 by omega]; rfl)) (by omega) (by omega)
        · refine v_iload_n X dX8_rest_28 rfl 1 rfl ?_
          refine v_iload_n X dX8_rest_29 rfl 3 rfl ?_
          refine v_roI1 X (rn_S X k_X8_isRest ml_X8_436 dX8_rest_30 (c_X8_isRest l E ch vp (by first | assumption | omega)) rfl (by decide) (by decide) (by omega) (by omega) (Nat.le_of_ble_eq_true rfl)) [] rfl rfl ?_
          refine v_ifB_eq X dX8_rest_33 (tgt := 51) (by decide) (fun h33 => ?_) (fun h33 => ?_)
          · refine v_iinc X dX8_rest_51 3 rfl (v := nI (vp + 1)) (nI_inc vp) (by decide) (lv' := [(3, .int (nI (vp + 1))), (0, .ref k), (1, .int (nI ch)), (2, .int (nI (if nI 0 ≤ (nI ch) ∧ (nI ch) ≤ nI 9 then 0 else 2)))]) rfl ?_
            refine v_goto X dX8_rest_54 (tgt := 23) (by decide) ?_
            refine V.lvs [1, 2, 3, 0] rfl ?_
            exact ih23 (vp + 1) (⟨by omega, hq.trans (fst_no (by omega) h33)⟩) (by omega)
          · refine v_aload_n X dX8_rest_36 rfl 0 rfl ?_
            refine v_bipush X dX8_rest_37 (v := nI 10) (by decide) ?_
            refine v_iload_n X dX8_rest_39 rfl 3 rfl ?_
            refine v_iconst X dX8_rest_40 (v := nI 2) (by decide) ?_
            refine v_idiv X dX8_rest_41 (by decide) ?_
            refine v_eqi (x' := nI (vp / 2)) (pk_div (by omega) (by omega) (by omega)) ?_
            refine v_imul X dX8_rest_42 ?_
            refine v_eqi (x' := nI (10 * (vp / 2))) (pk_mul _ _) ?_
            refine v_iload_n X dX8_rest_43 rfl 3 rfl ?_
            refine v_iconst X dX8_rest_44 (v := nI 2) (by decide) ?_
            refine v_irem X dX8_rest_45 (by decide) ?_
            refine v_eqi (x' := nI (vp % 2)) (pk_rem (by omega) (by omega) (by omega)) ?_
            refine v_iadd X dX8_rest_46 ?_
            refine v_eqi (x' := nI ((10 * (vp / 2)) + (vp % 2))) (nI_add _ _) ?_
            refine v_wrI1 X (rn_V X k_X8_good ml_X8_53 dX8_rest_47 (c_X8_good l E k 0 tr wh g rr q z nb wa wd ev al wl (nI ((10 * (vp / 2)) + (vp % 2))) ) rfl 0 rfl rfl (by decide) (by decide) (by omega) (by omega) (Nat.le_of_ble_eq_true rfl)) [0] rfl rfl (ws' := [ob k 8 [.int (nI 0), .int (nI 0), .int (-1), .ref g, va_rf rr, .ref (q 5), .int (nI (z 6)), .int (nI (z 7)), .int (nI (z 8)), .int (nI (z 9)), .int (nI (z 10)), .int nb, .int (nI (z 12)), .int wa, .long wd, .ref (q 15), .ref (q 16), .ref (q 17), .ref (q 18), .int (nI (z 19)), .int (nI (z 20)), .ref (q 21), .long (lN ev), .ref (q 23), .ref (q 24), .int (nI (z 25)), .ref (q 26), .int al, .long wl, .int (nI (z 29))]]) rfl rfl ?_
            exact v_iret X Y dX8_rest_50 (wrI_of rfl (by rw [hq, fst_hit (by omega) h33]; exact rest_v (by omega))) (by omega) (by omega)
    refine V.lvs [2, 3, 1, 0] rfl ?_
    exact L23 _ 0 (⟨by omega, rfl⟩) (Nat.lt_succ_self _)
  · exact absurd h12 (by rw [hw0]; decide)
set_option maxRecDepth 100000 in
set_option maxHeartbeats 4000000 in
theorem c_X8_rest_no2 (l : Launch) (E : Et) (k : Nat) (th : Nat) (tr : Nat) (wh : Int32) (g : Nat) (rr : Option Nat) (q : Nat → Nat) (z : Nat → Nat) (nb : Int32) (wa : Int32) (wd : Int64) (ev : Nat) (al : Int32) (wl : Int64) (ch : Int32) (hno : ¬ (nI 0 ≤ ch ∧ ch ≤ nI 9)) : Ct l E yX8_rest cX8_rest 4 (some .int) 5 0 0 [.ref k, .int ch] [ob k 8 [.int (nI th), .int (nI tr), .int wh, .ref g, va_rf rr, .ref (q 5), .int (nI (z 6)), .int (nI (z 7)), .int (nI (z 8)), .int (nI (z 9)), .int (nI (z 10)), .int nb, .int (nI (z 12)), .int wa, .long wd, .ref (q 15), .ref (q 16), .ref (q 17), .ref (q 18), .int (nI (z 19)), .int (nI (z 20)), .ref (q 21), .long (lN ev), .ref (q 23), .ref (q 24), .int (nI (z 25)), .ref (q 26), .int al, .long wl, .int (nI (z 29))]] (wrI [ob k 8 [.int (nI 0), .int (nI 2), .int (-1), .ref g, va_rf rr, .ref (q 5), .int (nI (z 6)), .int (nI (z 7)), .int (nI (z 8)), .int (nI (z 9)), .int (nI (z 10)), .int nb, .int (nI (z 12)), .int wa, .long wd, .ref (q 15), .ref (q 16), .ref (q 17), .ref (q 18), .int (nI (z 19)), .int (nI (z 20)), .ref (q 21), .long (lN ev), .ref (q 23), .ref (q 24), .int (nI (z 25)), .ref (q 26), .int al, .long wl, .int (nI (z 29))]] (-1)) := by
  refine Ct.intro (by decide +kernel) (Nat.le_of_ble_eq_true rfl) (lv := [(0, .ref k), (1, .int ch)]) rfl ?_
  intro Z X Y
  have hw0 : (if nI 0 ≤ ch ∧ ch ≤ nI 9 then 0 else 2) = 2 := by rw [if_neg hno]
  refine v_aload_n X dX8_rest_0 rfl 0 rfl ?_
  refine v_iconst X dX8_rest_1 (v := nI 0) (by decide) ?_
  refine v_put X kcX8 fl_X8_43 dX8_rest_2 0 rfl (ws' := [ob k 8 [.int (nI 0), .int (nI tr), .int wh, .ref g, va_rf rr, .ref (q 5), .int (nI (z 6)), .int (nI (z 7)), .int (nI (z 8)), .int (nI (z 9)), .int (nI (z 10)), .int nb, .int (nI (z 12)), .int wa, .long wd, .ref (q 15), .ref (q 16), .ref (q 17), .ref (q 18), .int (nI (z 19)), .int (nI (z 20)), .ref (q 21), .long (lN ev), .ref (q 23), .ref (q 24), .int (nI (z 25)), .ref (q 26), .int al, .long wl, .int (nI (z 29))]]) rfl rfl ?_
  refine v_aload_n X dX8_rest_5 rfl 0 rfl ?_
  refine v_iload_n X dX8_rest_6 rfl 1 rfl ?_
  refine v_roI1 X (rn_V X k_X8_refusesChain ml_X8_422 dX8_rest_7 (c_X8_refusesChain l E k 0 tr wh g rr q z nb wa wd ev al wl ch ) rfl 0 rfl rfl (by decide) (by decide) (by omega) (by omega) (Nat.le_of_ble_eq_true rfl)) [0] rfl rfl ?_
  refine v_istore_n X dX8_rest_10 rfl (by decide) (lv' := [(2, .int (nI (if nI 0 ≤ ch ∧ ch ≤ nI 9 then 0 else 2))), (0, .ref k), (1, .int ch)]) rfl ?_
  refine v_iload_n X dX8_rest_11 rfl 0 rfl ?_
  refine v_ifN_le X dX8_rest_12 (tgt := 21) (by decide) (by rw [hw0]; decide) (fun h12 => ?_) (fun h12 => ?_)
  · exact absurd h12 (by rw [hw0]; decide)
  · refine v_aload_n X dX8_rest_15 rfl 1 rfl ?_
    refine v_iload_n X dX8_rest_16 rfl 0 rfl ?_
    refine v_wrI1 X (rn_V X k_X8_refused ml_X8_49 dX8_rest_17 (c_X8_refused l E k 0 tr wh g rr q z nb wa wd ev al wl (if nI 0 ≤ ch ∧ ch ≤ nI 9 then 0 else 2) ) rfl 0 rfl rfl (by decide) (by decide) (by omega) (by omega) (Nat.le_of_ble_eq_true rfl)) [0] rfl rfl (ws' := [ob k 8 [.int (nI 0), .int (nI (if nI 0 ≤ ch ∧ ch ≤ nI 9 then 0 else 2)), .int (-1), .ref g, va_rf rr, .ref (q 5), .int (nI (z 6)), .int (nI (z 7)), .int (nI (z 8)), .int (nI (z 9)), .int (nI (z 10)), .int nb, .int (nI (z 12)), .int wa, .long wd, .ref (q 15), .ref (q 16), .ref (q 17), .ref (q 18), .int (nI (z 19)), .int (nI (z 20)), .ref (q 21), .long (lN ev), .ref (q 23), .ref (q 24), .int (nI (z 25)), .ref (q 26), .int al, .long wl, .int (nI (z 29))]]) rfl rfl ?_
    exact v_iret X Y dX8_rest_20 (wrI_of (by rw [hw0]) rfl) (by omega) (by omega)
set_option maxRecDepth 100000 in
set_option maxHeartbeats 4000000 in
theorem c_X8_rest_n (l : Launch) (E : Et) (k : Nat) (th : Nat) (tr : Nat) (wh : Int32) (rr : Option Nat) (q : Nat → Nat) (z : Nat → Nat) (nb : Int32) (wa : Int32) (wd : Int64) (ev : Nat) (al : Int32) (wl : Int64) (ch : Int32)  : Ct l E yX8_rest cX8_rest 4 (some .int) 5 0 0 [.ref k, .int ch] [ob k 8 [.int (nI th), .int (nI tr), .int wh, .null, va_rf rr, .ref (q 5), .int (nI (z 6)), .int (nI (z 7)), .int (nI (z 8)), .int (nI (z 9)), .int (nI (z 10)), .int nb, .int (nI (z 12)), .int wa, .long wd, .ref (q 15), .ref (q 16), .ref (q 17), .ref (q 18), .int (nI (z 19)), .int (nI (z 20)), .ref (q 21), .long (lN ev), .ref (q 23), .ref (q 24), .int (nI (z 25)), .ref (q 26), .int al, .long wl, .int (nI (z 29))]] (wrI [ob k 8 [.int (nI 0), .int (nI 1), .int (-1), .null, va_rf rr, .ref (q 5), .int (nI (z 6)), .int (nI (z 7)), .int (nI (z 8)), .int (nI (z 9)), .int (nI (z 10)), .int nb, .int (nI (z 12)), .int wa, .long wd, .ref (q 15), .ref (q 16), .ref (q 17), .ref (q 18), .int (nI (z 19)), .int (nI (z 20)), .ref (q 21), .long (lN ev), .ref (q 23), .ref (q 24), .int (nI (z 25)), .ref (q 26), .int al, .long wl, .int (nI (z 29))]] (-1)) := by
  refine Ct.intro (by decide +kernel) (Nat.le_of_ble_eq_true rfl) (lv := [(0, .ref k), (1, .int ch)]) rfl ?_
  intro Z X Y
  refine v_aload_n X dX8_rest_0 rfl 0 rfl ?_
  refine v_iconst X dX8_rest_1 (v := nI 0) (by decide) ?_
  refine v_put X kcX8 fl_X8_43 dX8_rest_2 0 rfl (ws' := [ob k 8 [.int (nI 0), .int (nI tr), .int wh, .null, va_rf rr, .ref (q 5), .int (nI (z 6)), .int (nI (z 7)), .int (nI (z 8)), .int (nI (z 9)), .int (nI (z 10)), .int nb, .int (nI (z 12)), .int wa, .long wd, .ref (q 15), .ref (q 16), .ref (q 17), .ref (q 18), .int (nI (z 19)), .int (nI (z 20)), .ref (q 21), .long (lN ev), .ref (q 23), .ref (q 24), .int (nI (z 25)), .ref (q 26), .int al, .long wl, .int (nI (z 29))]]) rfl rfl ?_
  refine v_aload_n X dX8_rest_5 rfl 0 rfl ?_
  refine v_iload_n X dX8_rest_6 rfl 1 rfl ?_
  refine v_roI1 X (rn_V X k_X8_refusesChain ml_X8_422 dX8_rest_7 (c_X8_refusesChain_n l E k 0 tr wh rr q z nb wa wd ev al wl ch ) rfl 0 rfl rfl (by decide) (by decide) (by omega) (by omega) (Nat.le_of_ble_eq_true rfl)) [0] rfl rfl ?_
  refine v_istore_n X dX8_rest_10 rfl (by decide) (lv' := [(2, .int (nI 1)), (0, .ref k), (1, .int ch)]) rfl ?_
  refine v_iload_n X dX8_rest_11 rfl 0 rfl ?_
  refine v_ifN_le X dX8_rest_12 (tgt := 21) (by decide) (by decide) (fun h12 => ?_) (fun h12 => ?_)
  · exfalso; omega
  · refine v_aload_n X dX8_rest_15 rfl 1 rfl ?_
    refine v_iload_n X dX8_rest_16 rfl 0 rfl ?_
    refine v_wrI1 X (rn_V X k_X8_refused ml_X8_49 dX8_rest_17 (c_X8_refused_n l E k 0 tr wh rr q z nb wa wd ev al wl 1 ) rfl 0 rfl rfl (by decide) (by decide) (by omega) (by omega) (Nat.le_of_ble_eq_true rfl)) [0] rfl rfl (ws' := [ob k 8 [.int (nI 0), .int (nI 1), .int (-1), .null, va_rf rr, .ref (q 5), .int (nI (z 6)), .int (nI (z 7)), .int (nI (z 8)), .int (nI (z 9)), .int (nI (z 10)), .int nb, .int (nI (z 12)), .int wa, .long wd, .ref (q 15), .ref (q 16), .ref (q 17), .ref (q 18), .int (nI (z 19)), .int (nI (z 20)), .ref (q 21), .long (lN ev), .ref (q 23), .ref (q 24), .int (nI (z 25)), .ref (q 26), .int al, .long wl, .int (nI (z 29))]]) rfl rfl ?_
    exact v_iret X Y dX8_rest_20 (wrI_of rfl rfl) (by omega) (by omega)
