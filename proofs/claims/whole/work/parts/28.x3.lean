set_option maxRecDepth 100000 in
set_option maxHeartbeats 4000000 in
theorem c_X4_takeFour (l : Launch) (E : Et) (hr : Nat) (ra : Nat → Nat) (fd : Nat) (re : Nat) (rk : Nat) (rp : Nat) (rn : Nat) (rv : Int64) (rh : Bool) (rc : Nat) (rf : Nat) (rw : Int32) (tp : Nat → Int32) (a : Int32) (hfd : fd + 4 ≤ 900) : Ct l E yX4_takeFour cX4_takeFour 3 none 0 0 0 [.ref hr, .int a] [ob hr 4 [.ref (ra 0), .int (nI fd), .ref (ra 2), .ref (ra 3), .int (nI re), .int (nI rk), .int (nI rp), .int (nI rn), .long rv, .int (nI (rh).toNat), .ref (ra 10), .ref (ra 11), .ref (ra 12), .int (nI rc), .int (nI rf), .int rw], aB E (ra 0) 900 tp] (wrV [ob hr 4 [.ref (ra 0), .int (nI (fd + 1 + 1 + 1 + 1)), .ref (ra 2), .ref (ra 3), .int (nI re), .int (nI rk), .int (nI rp), .int (nI rn), .long rv, .int (nI (rh).toNat), .ref (ra 10), .ref (ra 11), .ref (ra 12), .int (nI rc), .int (nI rf), .int rw], aB E (ra 0) 900 (tk4 tp fd a)]) := by
  refine Ct.intro (by decide +kernel) (Nat.le_of_ble_eq_true rfl) (lv := [(0, .ref hr), (1, .int a)]) rfl ?_
  intro Z X Y
  refine v_bipush X dX4_takeFour_0 (v := nI 24) (by decide) ?_
  refine v_istore_n X dX4_takeFour_2 rfl (by decide) (lv' := [(2, .int (nI 24)), (0, .ref hr), (1, .int a)]) rfl ?_
  refine v_iload_n X dX4_takeFour_3 rfl 0 rfl ?_
  refine v_if_lt X dX4_takeFour_4 (tgt := 46) (by decide) (fun h4 => ?_) (fun h4 => ?_)
  · exact absurd h4 (by decide)
  · refine v_aload_n X dX4_takeFour_7 rfl 1 rfl ?_
    refine v_get X kcX4 fl_X4_51 dX4_takeFour_8 0 rfl rfl ?_
    refine v_sipush X dX4_takeFour_11 (v := nI 900) (by decide) ?_
    refine v_icmpN_ge X dX4_takeFour_14 (tgt := 40) (by decide) (by omega) (by decide) (fun h14 => ?_) (fun h14 => ?_)
    · exfalso; omega
    · refine v_aload_n X dX4_takeFour_17 rfl 1 rfl ?_
      refine v_get X kcX4 fl_X4_9 dX4_takeFour_18 0 rfl rfl ?_
      refine v_aload_n X dX4_takeFour_21 rfl 1 rfl ?_
      refine v_get X kcX4 fl_X4_51 dX4_takeFour_22 0 rfl rfl ?_
      refine v_iload_n X dX4_takeFour_25 rfl 2 rfl ?_
      refine v_iload_n X dX4_takeFour_26 rfl 0 rfl ?_
      refine v_iushr X dX4_takeFour_27 (v := (a.toUInt32 >>> ((nI 24).toUInt32 &&& Int32.toUInt32 31)).toInt32) rfl ?_
      refine v_i2b X dX4_takeFour_28 (v := ((a.toUInt32 >>> ((nI 24).toUInt32 &&& Int32.toUInt32 31)).toInt32).toInt8.toInt32) rfl ?_
      refine v_bast X dX4_takeFour_29 1 rfl (by omega) (by decide) (ws' := [ob hr 4 [.ref (ra 0), .int (nI fd), .ref (ra 2), .ref (ra 3), .int (nI re), .int (nI rk), .int (nI rp), .int (nI rn), .long rv, .int (nI (rh).toNat), .ref (ra 10), .ref (ra 11), .ref (ra 12), .int (nI rc), .int (nI rf), .int rw], aB E (ra 0) 900 (upd tp fd (vp_nar .byte (((a.toUInt32 >>> ((nI 24).toUInt32 &&& Int32.toUInt32 31)).toInt32).toInt8.toInt32)))]) rfl ?_
      refine v_aload_n X dX4_takeFour_30 rfl 1 rfl ?_
      refine v_dup X dX4_takeFour_31 rfl ?_
      refine v_get X kcX4 fl_X4_51 dX4_takeFour_32 0 rfl rfl ?_
      refine v_iconst X dX4_takeFour_35 (v := nI 1) (by decide) ?_
      refine v_iadd X dX4_takeFour_36 ?_
      refine v_eqi (x' := nI (fd + 1)) (nI_add _ _) ?_
      refine v_put X kcX4 fl_X4_51 dX4_takeFour_37 0 rfl (ws' := [ob hr 4 [.ref (ra 0), .int (nI (fd + 1)), .ref (ra 2), .ref (ra 3), .int (nI re), .int (nI rk), .int (nI rp), .int (nI rn), .long rv, .int (nI (rh).toNat), .ref (ra 10), .ref (ra 11), .ref (ra 12), .int (nI rc), .int (nI rf), .int rw], aB E (ra 0) 900 (upd tp fd (vp_nar .byte (((a.toUInt32 >>> ((nI 24).toUInt32 &&& Int32.toUInt32 31)).toInt32).toInt8.toInt32)))]) rfl rfl ?_
      refine v_iinc X dX4_takeFour_40 0 rfl (v := nI 16) (by decide) (by decide) (lv' := [(2, .int (nI 16)), (0, .ref hr), (1, .int a)]) rfl ?_
      refine v_goto X dX4_takeFour_43 (tgt := 3) (by decide) ?_
      refine v_iload_n X dX4_takeFour_3 rfl 0 rfl ?_
      refine v_if_lt X dX4_takeFour_4 (tgt := 46) (by decide) (fun h4 => ?_) (fun h4 => ?_)
      · exact absurd h4 (by decide)
      · refine v_aload_n X dX4_takeFour_7 rfl 1 rfl ?_
        refine v_get X kcX4 fl_X4_51 dX4_takeFour_8 0 rfl rfl ?_
        refine v_sipush X dX4_takeFour_11 (v := nI 900) (by decide) ?_
        refine v_icmpN_ge X dX4_takeFour_14 (tgt := 40) (by decide) (by omega) (by decide) (fun h14 => ?_) (fun h14 => ?_)
        · exfalso; omega
        · refine v_aload_n X dX4_takeFour_17 rfl 1 rfl ?_
          refine v_get X kcX4 fl_X4_9 dX4_takeFour_18 0 rfl rfl ?_
          refine v_aload_n X dX4_takeFour_21 rfl 1 rfl ?_
          refine v_get X kcX4 fl_X4_51 dX4_takeFour_22 0 rfl rfl ?_
          refine v_iload_n X dX4_takeFour_25 rfl 2 rfl ?_
          refine v_iload_n X dX4_takeFour_26 rfl 0 rfl ?_
          refine v_iushr X dX4_takeFour_27 (v := (a.toUInt32 >>> ((nI 16).toUInt32 &&& Int32.toUInt32 31)).toInt32) rfl ?_
          refine v_i2b X dX4_takeFour_28 (v := ((a.toUInt32 >>> ((nI 16).toUInt32 &&& Int32.toUInt32 31)).toInt32).toInt8.toInt32) rfl ?_
          refine v_bast X dX4_takeFour_29 1 rfl (by omega) (by decide) (ws' := [ob hr 4 [.ref (ra 0), .int (nI (fd + 1)), .ref (ra 2), .ref (ra 3), .int (nI re), .int (nI rk), .int (nI rp), .int (nI rn), .long rv, .int (nI (rh).toNat), .ref (ra 10), .ref (ra 11), .ref (ra 12), .int (nI rc), .int (nI rf), .int rw], aB E (ra 0) 900 (upd (upd tp fd (vp_nar .byte (((a.toUInt32 >>> ((nI 24).toUInt32 &&& Int32.toUInt32 31)).toInt32).toInt8.toInt32))) (fd + 1) (vp_nar .byte (((a.toUInt32 >>> ((nI 16).toUInt32 &&& Int32.toUInt32 31)).toInt32).toInt8.toInt32)))]) rfl ?_
          refine v_aload_n X dX4_takeFour_30 rfl 1 rfl ?_
          refine v_dup X dX4_takeFour_31 rfl ?_
          refine v_get X kcX4 fl_X4_51 dX4_takeFour_32 0 rfl rfl ?_
          refine v_iconst X dX4_takeFour_35 (v := nI 1) (by decide) ?_
          refine v_iadd X dX4_takeFour_36 ?_
          refine v_eqi (x' := nI ((fd + 1) + 1)) (nI_add _ _) ?_
          refine v_put X kcX4 fl_X4_51 dX4_takeFour_37 0 rfl (ws' := [ob hr 4 [.ref (ra 0), .int (nI ((fd + 1) + 1)), .ref (ra 2), .ref (ra 3), .int (nI re), .int (nI rk), .int (nI rp), .int (nI rn), .long rv, .int (nI (rh).toNat), .ref (ra 10), .ref (ra 11), .ref (ra 12), .int (nI rc), .int (nI rf), .int rw], aB E (ra 0) 900 (upd (upd tp fd (vp_nar .byte (((a.toUInt32 >>> ((nI 24).toUInt32 &&& Int32.toUInt32 31)).toInt32).toInt8.toInt32))) (fd + 1) (vp_nar .byte (((a.toUInt32 >>> ((nI 16).toUInt32 &&& Int32.toUInt32 31)).toInt32).toInt8.toInt32)))]) rfl rfl ?_
          refine v_iinc X dX4_takeFour_40 0 rfl (v := nI 8) (by decide) (by decide) (lv' := [(2, .int (nI 8)), (0, .ref hr), (1, .int a)]) rfl ?_
          refine v_goto X dX4_takeFour_43 (tgt := 3) (by decide) ?_
          refine v_iload_n X dX4_takeFour_3 rfl 0 rfl ?_
          refine v_if_lt X dX4_takeFour_4 (tgt := 46) (by decide) (fun h4 => ?_) (fun h4 => ?_)
          · exact absurd h4 (by decide)
          · refine v_aload_n X dX4_takeFour_7 rfl 1 rfl ?_
            refine v_get X kcX4 fl_X4_51 dX4_takeFour_8 0 rfl rfl ?_
            refine v_sipush X dX4_takeFour_11 (v := nI 900) (by decide) ?_
            refine v_icmpN_ge X dX4_takeFour_14 (tgt := 40) (by decide) (by omega) (by decide) (fun h14 => ?_) (fun h14 => ?_)
            · exfalso; omega
            · refine v_aload_n X dX4_takeFour_17 rfl 1 rfl ?_
              refine v_get X kcX4 fl_X4_9 dX4_takeFour_18 0 rfl rfl ?_
              refine v_aload_n X dX4_takeFour_21 rfl 1 rfl ?_
              refine v_get X kcX4 fl_X4_51 dX4_takeFour_22 0 rfl rfl ?_
              refine v_iload_n X dX4_takeFour_25 rfl 2 rfl ?_
              refine v_iload_n X dX4_takeFour_26 rfl 0 rfl ?_
              refine v_iushr X dX4_takeFour_27 (v := (a.toUInt32 >>> ((nI 8).toUInt32 &&& Int32.toUInt32 31)).toInt32) rfl ?_
              refine v_i2b X dX4_takeFour_28 (v := ((a.toUInt32 >>> ((nI 8).toUInt32 &&& Int32.toUInt32 31)).toInt32).toInt8.toInt32) rfl ?_
              refine v_bast X dX4_takeFour_29 1 rfl (by omega) (by decide) (ws' := [ob hr 4 [.ref (ra 0), .int (nI ((fd + 1) + 1)), .ref (ra 2), .ref (ra 3), .int (nI re), .int (nI rk), .int (nI rp), .int (nI rn), .long rv, .int (nI (rh).toNat), .ref (ra 10), .ref (ra 11), .ref (ra 12), .int (nI rc), .int (nI rf), .int rw], aB E (ra 0) 900 (upd (upd (upd tp fd (vp_nar .byte (((a.toUInt32 >>> ((nI 24).toUInt32 &&& Int32.toUInt32 31)).toInt32).toInt8.toInt32))) (fd + 1) (vp_nar .byte (((a.toUInt32 >>> ((nI 16).toUInt32 &&& Int32.toUInt32 31)).toInt32).toInt8.toInt32))) ((fd + 1) + 1) (vp_nar .byte (((a.toUInt32 >>> ((nI 8).toUInt32 &&& Int32.toUInt32 31)).toInt32).toInt8.toInt32)))]) rfl ?_
              refine v_aload_n X dX4_takeFour_30 rfl 1 rfl ?_
              refine v_dup X dX4_takeFour_31 rfl ?_
              refine v_get X kcX4 fl_X4_51 dX4_takeFour_32 0 rfl rfl ?_
              refine v_iconst X dX4_takeFour_35 (v := nI 1) (by decide) ?_
              refine v_iadd X dX4_takeFour_36 ?_
              refine v_eqi (x' := nI (((fd + 1) + 1) + 1)) (nI_add _ _) ?_
              refine v_put X kcX4 fl_X4_51 dX4_takeFour_37 0 rfl (ws' := [ob hr 4 [.ref (ra 0), .int (nI (((fd + 1) + 1) + 1)), .ref (ra 2), .ref (ra 3), .int (nI re), .int (nI rk), .int (nI rp), .int (nI rn), .long rv, .int (nI (rh).toNat), .ref (ra 10), .ref (ra 11), .ref (ra 12), .int (nI rc), .int (nI rf), .int rw], aB E (ra 0) 900 (upd (upd (upd tp fd (vp_nar .byte (((a.toUInt32 >>> ((nI 24).toUInt32 &&& Int32.toUInt32 31)).toInt32).toInt8.toInt32))) (fd + 1) (vp_nar .byte (((a.toUInt32 >>> ((nI 16).toUInt32 &&& Int32.toUInt32 31)).toInt32).toInt8.toInt32))) ((fd + 1) + 1) (vp_nar .byte (((a.toUInt32 >>> ((nI 8).toUInt32 &&& Int32.toUInt32 31)).toInt32).toInt8.toInt32)))]) rfl rfl ?_
              refine v_iinc X dX4_takeFour_40 0 rfl (v := nI 0) (by decide) (by decide) (lv' := [(2, .int (nI 0)), (0, .ref hr), (1, .int a)]) rfl ?_
              refine v_goto X dX4_takeFour_43 (tgt := 3) (by decide) ?_
              refine v_iload_n X dX4_takeFour_3 rfl 0 rfl ?_
              refine v_if_lt X dX4_takeFour_4 (tgt := 46) (by decide) (fun h4 => ?_) (fun h4 => ?_)
              · exact absurd h4 (by decide)
              · refine v_aload_n X dX4_takeFour_7 rfl 1 rfl ?_
                refine v_get X kcX4 fl_X4_51 dX4_takeFour_8 0 rfl rfl ?_
                refine v_sipush X dX4_takeFour_11 (v := nI 900) (by decide) ?_
                refine v_icmpN_ge X dX4_takeFour_14 (tgt := 40) (by decide) (by omega) (by decide) (fun h14 => ?_) (fun h14 => ?_)
                · exfalso; omega
                · refine v_aload_n X dX4_takeFour_17 rfl 1 rfl ?_
                  refine v_get X kcX4 fl_X4_9 dX4_takeFour_18 0 rfl rfl ?_
                  refine v_aload_n X dX4_takeFour_21 rfl 1 rfl ?_
                  refine v_get X kcX4 fl_X4_51 dX4_takeFour_22 0 rfl rfl ?_
                  refine v_iload_n X dX4_takeFour_25 rfl 2 rfl ?_
                  refine v_iload_n X dX4_takeFour_26 rfl 0 rfl ?_
                  refine v_iushr X dX4_takeFour_27 (v := (a.toUInt32 >>> ((nI 0).toUInt32 &&& Int32.toUInt32 31)).toInt32) rfl ?_
                  refine v_i2b X dX4_takeFour_28 (v := ((a.toUInt32 >>> ((nI 0).toUInt32 &&& Int32.toUInt32 31)).toInt32).toInt8.toInt32) rfl ?_
                  refine v_bast X dX4_takeFour_29 1 rfl (by omega) (by decide) (ws' := [ob hr 4 [.ref (ra 0), .int (nI (((fd + 1) + 1) + 1)), .ref (ra 2), .ref (ra 3), .int (nI re), .int (nI rk), .int (nI rp), .int (nI rn), .long rv, .int (nI (rh).toNat), .ref (ra 10), .ref (ra 11), .ref (ra 12), .int (nI rc), .int (nI rf), .int rw], aB E (ra 0) 900 (upd (upd (upd (upd tp fd (vp_nar .byte (((a.toUInt32 >>> ((nI 24).toUInt32 &&& Int32.toUInt32 31)).toInt32).toInt8.toInt32))) (fd + 1) (vp_nar .byte (((a.toUInt32 >>> ((nI 16).toUInt32 &&& Int32.toUInt32 31)).toInt32).toInt8.toInt32))) ((fd + 1) + 1) (vp_nar .byte (((a.toUInt32 >>> ((nI 8).toUInt32 &&& Int32.toUInt32 31)).toInt32).toInt8.toInt32))) (((fd + 1) + 1) + 1) (vp_nar .byte (((a.toUInt32 >>> ((nI 0).toUInt32 &&& Int32.toUInt32 31)).toInt32).toInt8.toInt32)))]) rfl ?_
                  refine v_aload_n X dX4_takeFour_30 rfl 1 rfl ?_
                  refine v_dup X dX4_takeFour_31 rfl ?_
                  refine v_get X kcX4 fl_X4_51 dX4_takeFour_32 0 rfl rfl ?_
                  refine v_iconst X dX4_takeFour_35 (v := nI 1) (by decide) ?_
                  refine v_iadd X dX4_takeFour_36 ?_
                  refine v_eqi (x' := nI ((((fd + 1) + 1) + 1) + 1)) (nI_add _ _) ?_
                  refine v_put X kcX4 fl_X4_51 dX4_takeFour_37 0 rfl (ws' := [ob hr 4 [.ref (ra 0), .int (nI ((((fd + 1) + 1) + 1) + 1)), .ref (ra 2), .ref (ra 3), .int (nI re), .int (nI rk), .int (nI rp), .int (nI rn), .long rv, .int (nI (rh).toNat), .ref (ra 10), .ref (ra 11), .ref (ra 12), .int (nI rc), .int (nI rf), .int rw], aB E (ra 0) 900 (upd (upd (upd (upd tp fd (vp_nar .byte (((a.toUInt32 >>> ((nI 24).toUInt32 &&& Int32.toUInt32 31)).toInt32).toInt8.toInt32))) (fd + 1) (vp_nar .byte (((a.toUInt32 >>> ((nI 16).toUInt32 &&& Int32.toUInt32 31)).toInt32).toInt8.toInt32))) ((fd + 1) + 1) (vp_nar .byte (((a.toUInt32 >>> ((nI 8).toUInt32 &&& Int32.toUInt32 31)).toInt32).toInt8.toInt32))) (((fd + 1) + 1) + 1) (vp_nar .byte (((a.toUInt32 >>> ((nI 0).toUInt32 &&& Int32.toUInt32 31)).toInt32).toInt8.toInt32)))]) rfl rfl ?_
                  refine v_iinc X dX4_takeFour_40 0 rfl (v := (-8)) (by decide) (by decide) (lv' := [(2, .int (-8)), (0, .ref hr), (1, .int a)]) rfl ?_
                  refine v_goto X dX4_takeFour_43 (tgt := 3) (by decide) ?_
                  refine v_iload_n X dX4_takeFour_3 rfl 0 rfl ?_
                  refine v_if_lt X dX4_takeFour_4 (tgt := 46) (by decide) (fun h4 => ?_) (fun h4 => ?_)
                  · exact v_vret X Y dX4_takeFour_46 (wrV_of (rfl)) (by omega) (by omega)
                  · exact absurd h4 (by decide)
set_option maxRecDepth 100000 in
set_option maxHeartbeats 4000000 in
theorem c_X6_fault (l : Launch) (E : Et) (x : Nat) (xa : Nat → Nat) (g : Nat) (tr : Nat) (fl : Nat) (pl : Int32)  : Ct l E yX6_fault cX6_fault 1 (some .int) 0 0 0 [.ref x] [ob x 6 [.ref (xa 0), .ref g, .ref (xa 2), .ref (xa 3), .ref (xa 4), .ref (xa 5), .ref (xa 6), .ref (xa 7), .int (nI tr), .int (nI fl), .int pl]] (roI [ob x 6 [.ref (xa 0), .ref g, .ref (xa 2), .ref (xa 3), .ref (xa 4), .ref (xa 5), .ref (xa 6), .ref (xa 7), .int (nI tr), .int (nI fl), .int pl]] (nI fl)) := by
  refine Ct.intro (by decide +kernel) (Nat.le_of_ble_eq_true rfl) (lv := [(0, .ref x)]) rfl ?_
  intro Z X Y
  refine v_aload_n X dX6_fault_0 rfl 0 rfl ?_
  refine v_get X kcX6 fl_X6_61 dX6_fault_1 0 rfl rfl ?_
  exact v_iret X Y dX6_fault_4 (roI_of rfl) (by omega) (by omega)
set_option maxRecDepth 100000 in
set_option maxHeartbeats 4000000 in
theorem c_X6_trouble (l : Launch) (E : Et) (x : Nat) (xa : Nat → Nat) (g : Nat) (tr : Nat) (fl : Nat) (pl : Int32)  : Ct l E yX6_trouble cX6_trouble 1 (some .int) 0 0 0 [.ref x] [ob x 6 [.ref (xa 0), .ref g, .ref (xa 2), .ref (xa 3), .ref (xa 4), .ref (xa 5), .ref (xa 6), .ref (xa 7), .int (nI tr), .int (nI fl), .int pl]] (roI [ob x 6 [.ref (xa 0), .ref g, .ref (xa 2), .ref (xa 3), .ref (xa 4), .ref (xa 5), .ref (xa 6), .ref (xa 7), .int (nI tr), .int (nI fl), .int pl]] (nI tr)) := by
  refine Ct.intro (by decide +kernel) (Nat.le_of_ble_eq_true rfl) (lv := [(0, .ref x)]) rfl ?_
  intro Z X Y
  refine v_aload_n X dX6_trouble_0 rfl 0 rfl ?_
  refine v_get X kcX6 fl_X6_57 dX6_trouble_1 0 rfl rfl ?_
  exact v_iret X Y dX6_trouble_4 (roI_of rfl) (by omega) (by omega)
set_option maxRecDepth 100000 in
set_option maxHeartbeats 4000000 in
theorem c_X6_where (l : Launch) (E : Et) (x : Nat) (xa : Nat → Nat) (g : Nat) (tr : Nat) (fl : Nat) (pl : Int32) (htr : tr < 2 ^ 31) : Ct l E yX6_where cX6_where 1 (some .int) 0 0 0 [.ref x] [ob x 6 [.ref (xa 0), .ref g, .ref (xa 2), .ref (xa 3), .ref (xa 4), .ref (xa 5), .ref (xa 6), .ref (xa 7), .int (nI tr), .int (nI fl), .int pl]] (roI [ob x 6 [.ref (xa 0), .ref g, .ref (xa 2), .ref (xa 3), .ref (xa 4), .ref (xa 5), .ref (xa 6), .ref (xa 7), .int (nI tr), .int (nI fl), .int pl]] (if tr = 4 then pl else (-1))) := by
  refine Ct.intro (by decide +kernel) (Nat.le_of_ble_eq_true rfl) (lv := [(0, .ref x)]) rfl ?_
  intro Z X Y
  refine v_aload_n X dX6_where_0 rfl 0 rfl ?_
  refine v_get X kcX6 fl_X6_57 dX6_where_1 0 rfl rfl ?_
  refine v_iconst X dX6_where_4 (v := nI 4) (by decide) ?_
  refine v_icmpN_ne X dX6_where_5 (tgt := 15) (by decide) (by omega) (by decide) (fun h5 => ?_) (fun h5 => ?_)
  · refine v_iconst X dX6_where_15 (v := (-1)) (by decide) ?_
    exact v_iret X Y dX6_where_16 (roI_of ((if_neg h5).symm)) (by omega) (by omega)
  · refine v_aload_n X dX6_where_8 rfl 0 rfl ?_
    refine v_get X kcX6 fl_X6_64 dX6_where_9 0 rfl rfl ?_
    refine v_goto X dX6_where_12 (tgt := 16) (by decide) ?_
    exact v_iret X Y dX6_where_16 (roI_of ((if_pos h5).symm)) (by omega) (by omega)
set_option maxRecDepth 100000 in
set_option maxHeartbeats 4000000 in
theorem c_X6_feed (l : Launch) (E : Et) (x : Nat) (xa : Nat → Nat) (g : Nat) (tr : Nat) (fl : Nat) (pl : Int32) (ra : Nat → Nat) (fd : Nat) (re : Nat) (rk : Nat) (rp : Nat) (rn : Nat) (rv : Int64) (rh : Bool) (rc : Nat) (rf : Nat) (rw : Int32) (tp : Nat → Int32) (a1 : Int32) (a2 : Int32) (a3 : Int32) (a4 : Int32) (a5 : Int32) (hfd : fd + 20 ≤ 900) : Ct l E yX6_feed cX6_feed 6 (some .int) 2 0 0 [.ref x, .int a1, .int a2, .int a3, .int a4, .int a5] [ob x 6 [.ref (xa 0), .ref g, .ref (xa 2), .ref (xa 3), .ref (xa 4), .ref (xa 5), .ref (xa 6), .ref (xa 7), .int (nI tr), .int (nI fl), .int pl], ob (xa 0) 4 [.ref (ra 0), .int (nI fd), .ref (ra 2), .ref (ra 3), .int (nI re), .int (nI rk), .int (nI rp), .int (nI rn), .long rv, .int (nI (rh).toNat), .ref (ra 10), .ref (ra 11), .ref (ra 12), .int (nI rc), .int (nI rf), .int rw], aB E (ra 0) 900 tp] (wrI [ob x 6 [.ref (xa 0), .ref g, .ref (xa 2), .ref (xa 3), .ref (xa 4), .ref (xa 5), .ref (xa 6), .ref (xa 7), .int (nI tr), .int (nI fl), .int pl], ob (xa 0) 4 [.ref (ra 0), .int (nI (fd + 20)), .ref (ra 2), .ref (ra 3), .int (nI re), .int (nI rk), .int (nI rp), .int (nI rn), .long rv, .int (nI (rh).toNat), .ref (ra 10), .ref (ra 11), .ref (ra 12), .int (nI rc), .int (nI rf), .int rw], aB E (ra 0) 900 (tk4 (tk4 (tk4 (tk4 (tk4 tp fd a1) (fd + 1 + 1 + 1 + 1) a2) (fd + 1 + 1 + 1 + 1 + 1 + 1 + 1 + 1) a3) (fd + 1 + 1 + 1 + 1 + 1 + 1 + 1 + 1 + 1 + 1 + 1 + 1) a4) (fd + 1 + 1 + 1 + 1 + 1 + 1 + 1 + 1 + 1 + 1 + 1 + 1 + 1 + 1 + 1 + 1) a5)] (nI (fd + 20))) := by
  refine Ct.intro (by decide +kernel) (Nat.le_of_ble_eq_true rfl) (lv := [(0, .ref x), (1, .int a1), (2, .int a2), (3, .int a3), (4, .int a4), (5, .int a5)]) rfl ?_
  intro Z X Y
  refine v_aload_n X dX6_feed_0 rfl 0 rfl ?_
  refine v_get X kcX6 fl_X6_12 dX6_feed_1 0 rfl rfl ?_
  refine v_getN X kcX4 fl_X6_67 dX6_feed_4 1 rfl rfl ?_
  refine v_bipush X dX6_feed_7 (v := nI 20) (by decide) ?_
  refine v_iadd X dX6_feed_9 ?_
  refine v_eqi (x' := nI (fd + 20)) (nI_add _ _) ?_
  refine v_sipush X dX6_feed_10 (v := nI 900) (by decide) ?_
  refine v_icmpN_le X dX6_feed_13 (tgt := 18) (by decide) (by omega) (by decide) (fun h13 => ?_) (fun h13 => ?_)
  · refine v_aload_n X dX6_feed_18 rfl 0 rfl ?_
    refine v_get X kcX6 fl_X6_12 dX6_feed_19 0 rfl rfl ?_
    refine v_iload_n X dX6_feed_22 rfl 1 rfl ?_
    refine v_wrV1 X (rn_VN X k_X4_takeFour ml_X6_70 dX6_feed_23 (c_X4_takeFour l E (xa 0) ra fd re rk rp rn rv rh rc rf rw tp a1 (by first | assumption | omega)) rfl 0 rfl rfl (by decide) (by decide) (by omega) (by omega) (Nat.le_of_ble_eq_true rfl)) [1, 2] rfl rfl (ws' := [ob x 6 [.ref (xa 0), .ref g, .ref (xa 2), .ref (xa 3), .ref (xa 4), .ref (xa 5), .ref (xa 6), .ref (xa 7), .int (nI tr), .int (nI fl), .int pl], ob (xa 0) 4 [.ref (ra 0), .int (nI (fd + 1 + 1 + 1 + 1)), .ref (ra 2), .ref (ra 3), .int (nI re), .int (nI rk), .int (nI rp), .int (nI rn), .long rv, .int (nI (rh).toNat), .ref (ra 10), .ref (ra 11), .ref (ra 12), .int (nI rc), .int (nI rf), .int rw], aB E (ra 0) 900 (tk4 tp fd a1)]) rfl rfl ?_
    refine v_aload_n X dX6_feed_26 rfl 0 rfl ?_
    refine v_get X kcX6 fl_X6_12 dX6_feed_27 0 rfl rfl ?_
    refine v_iload_n X dX6_feed_30 rfl 2 rfl ?_
    refine v_wrV1 X (rn_VN X k_X4_takeFour ml_X6_70 dX6_feed_31 (c_X4_takeFour l E (xa 0) ra (fd + 1 + 1 + 1 + 1) re rk rp rn rv rh rc rf rw (tk4 tp fd a1) a2 (by first | assumption | omega)) rfl 0 rfl rfl (by decide) (by decide) (by omega) (by omega) (Nat.le_of_ble_eq_true rfl)) [1, 2] rfl rfl (ws' := [ob x 6 [.ref (xa 0), .ref g, .ref (xa 2), .ref (xa 3), .ref (xa 4), .ref (xa 5), .ref (xa 6), .ref (xa 7), .int (nI tr), .int (nI fl), .int pl], ob (xa 0) 4 [.ref (ra 0), .int (nI ((fd + 1 + 1 + 1 + 1) + 1 + 1 + 1 + 1)), .ref (ra 2), .ref (ra 3), .int (nI re), .int (nI rk), .int (nI rp), .int (nI rn), .long rv, .int (nI (rh).toNat), .ref (ra 10), .ref (ra 11), .ref (ra 12), .int (nI rc), .int (nI rf), .int rw], aB E (ra 0) 900 (tk4 (tk4 tp fd a1) (fd + 1 + 1 + 1 + 1) a2)]) rfl rfl ?_
    refine v_aload_n X dX6_feed_34 rfl 0 rfl ?_
    refine v_get X kcX6 fl_X6_12 dX6_feed_35 0 rfl rfl ?_
    refine v_iload_n X dX6_feed_38 rfl 3 rfl ?_
    refine v_wrV1 X (rn_VN X k_X4_takeFour ml_X6_70 dX6_feed_39 (c_X4_takeFour l E (xa 0) ra ((fd + 1 + 1 + 1 + 1) + 1 + 1 + 1 + 1) re rk rp rn rv rh rc rf rw (tk4 (tk4 tp fd a1) (fd + 1 + 1 + 1 + 1) a2) a3 (by first | assumption | omega)) rfl 0 rfl rfl (by decide) (by decide) (by omega) (by omega) (Nat.le_of_ble_eq_true rfl)) [1, 2] rfl rfl (ws' := [ob x 6 [.ref (xa 0), .ref g, .ref (xa 2), .ref (xa 3), .ref (xa 4), .ref (xa 5), .ref (xa 6), .ref (xa 7), .int (nI tr), .int (nI fl), .int pl], ob (xa 0) 4 [.ref (ra 0), .int (nI (((fd + 1 + 1 + 1 + 1) + 1 + 1 + 1 + 1) + 1 + 1 + 1 + 1)), .ref (ra 2), .ref (ra 3), .int (nI re), .int (nI rk), .int (nI rp), .int (nI rn), .long rv, .int (nI (rh).toNat), .ref (ra 10), .ref (ra 11), .ref (ra 12), .int (nI rc), .int (nI rf), .int rw], aB E (ra 0) 900 (tk4 (tk4 (tk4 tp fd a1) (fd + 1 + 1 + 1 + 1) a2) ((fd + 1 + 1 + 1 + 1) + 1 + 1 + 1 + 1) a3)]) rfl rfl ?_
    refine v_aload_n X dX6_feed_42 rfl 0 rfl ?_
    refine v_get X kcX6 fl_X6_12 dX6_feed_43 0 rfl rfl ?_
    refine v_iload X dX6_feed_46 4 rfl ?_
    refine v_wrV1 X (rn_VN X k_X4_takeFour ml_X6_70 dX6_feed_48 (c_X4_takeFour l E (xa 0) ra (((fd + 1 + 1 + 1 + 1) + 1 + 1 + 1 + 1) + 1 + 1 + 1 + 1) re rk rp rn rv rh rc rf rw (tk4 (tk4 (tk4 tp fd a1) (fd + 1 + 1 + 1 + 1) a2) ((fd + 1 + 1 + 1 + 1) + 1 + 1 + 1 + 1) a3) a4 (by first | assumption | omega)) rfl 0 rfl rfl (by decide) (by decide) (by omega) (by omega) (Nat.le_of_ble_eq_true rfl)) [1, 2] rfl rfl (ws' := [ob x 6 [.ref (xa 0), .ref g, .ref (xa 2), .ref (xa 3), .ref (xa 4), .ref (xa 5), .ref (xa 6), .ref (xa 7), .int (nI tr), .int (nI fl), .int pl], ob (xa 0) 4 [.ref (ra 0), .int (nI ((((fd + 1 + 1 + 1 + 1) + 1 + 1 + 1 + 1) + 1 + 1 + 1 + 1) + 1 + 1 + 1 + 1)), .ref (ra 2), .ref (ra 3), .int (nI re), .int (nI rk), .int (nI rp), .int (nI rn), .long rv, .int (nI (rh).toNat), .ref (ra 10), .ref (ra 11), .ref (ra 12), .int (nI rc), .int (nI rf), .int rw], aB E (ra 0) 900 (tk4 (tk4 (tk4 (tk4 tp fd a1) (fd + 1 + 1 + 1 + 1) a2) ((fd + 1 + 1 + 1 + 1) + 1 + 1 + 1 + 1) a3) (((fd + 1 + 1 + 1 + 1) + 1 + 1 + 1 + 1) + 1 + 1 + 1 + 1) a4)]) rfl rfl ?_
    refine v_aload_n X dX6_feed_51 rfl 0 rfl ?_
    refine v_get X kcX6 fl_X6_12 dX6_feed_52 0 rfl rfl ?_
    refine v_iload X dX6_feed_55 5 rfl ?_
    refine v_wrV1 X (rn_VN X k_X4_takeFour ml_X6_70 dX6_feed_57 (c_X4_takeFour l E (xa 0) ra ((((fd + 1 + 1 + 1 + 1) + 1 + 1 + 1 + 1) + 1 + 1 + 1 + 1) + 1 + 1 + 1 + 1) re rk rp rn rv rh rc rf rw (tk4 (tk4 (tk4 (tk4 tp fd a1) (fd + 1 + 1 + 1 + 1) a2) ((fd + 1 + 1 + 1 + 1) + 1 + 1 + 1 + 1) a3) (((fd + 1 + 1 + 1 + 1) + 1 + 1 + 1 + 1) + 1 + 1 + 1 + 1) a4) a5 (by first | assumption | omega)) rfl 0 rfl rfl (by decide) (by decide) (by omega) (by omega) (Nat.le_of_ble_eq_true rfl)) [1, 2] rfl rfl (ws' := [ob x 6 [.ref (xa 0), .ref g, .ref (xa 2), .ref (xa 3), .ref (xa 4), .ref (xa 5), .ref (xa 6), .ref (xa 7), .int (nI tr), .int (nI fl), .int pl], ob (xa 0) 4 [.ref (ra 0), .int (nI (((((fd + 1 + 1 + 1 + 1) + 1 + 1 + 1 + 1) + 1 + 1 + 1 + 1) + 1 + 1 + 1 + 1) + 1 + 1 + 1 + 1)), .ref (ra 2), .ref (ra 3), .int (nI re), .int (nI rk), .int (nI rp), .int (nI rn), .long rv, .int (nI (rh).toNat), .ref (ra 10), .ref (ra 11), .ref (ra 12), .int (nI rc), .int (nI rf), .int rw], aB E (ra 0) 900 (tk4 (tk4 (tk4 (tk4 (tk4 tp fd a1) (fd + 1 + 1 + 1 + 1) a2) ((fd + 1 + 1 + 1 + 1) + 1 + 1 + 1 + 1) a3) (((fd + 1 + 1 + 1 + 1) + 1 + 1 + 1 + 1) + 1 + 1 + 1 + 1) a4) ((((fd + 1 + 1 + 1 + 1) + 1 + 1 + 1 + 1) + 1 + 1 + 1 + 1) + 1 + 1 + 1 + 1) a5)]) rfl rfl ?_
    refine v_aload_n X dX6_feed_60 rfl 0 rfl ?_
    refine v_get X kcX6 fl_X6_12 dX6_feed_61 0 rfl rfl ?_
    refine v_getN X kcX4 fl_X6_67 dX6_feed_64 1 rfl rfl ?_
    exact v_iret X Y dX6_feed_67 (wrI_of (rfl) (rfl)) (by omega) (by omega)
  · exfalso; omega
set_option maxRecDepth 100000 in
set_option maxHeartbeats 4000000 in
theorem c_X6_feed_no (l : Launch) (E : Et) (x : Nat) (xa : Nat → Nat) (g : Nat) (tr : Nat) (fl : Nat) (pl : Int32) (ra : Nat → Nat) (fd : Nat) (re : Nat) (rk : Nat) (rp : Nat) (rn : Nat) (rv : Int64) (rh : Bool) (rc : Nat) (rf : Nat) (rw : Int32) (tp : Nat → Int32) (a1 : Int32) (a2 : Int32) (a3 : Int32) (a4 : Int32) (a5 : Int32) (hfd : ¬ fd + 20 ≤ 900) (hfe : fd ≤ 900) : Ct l E yX6_feed cX6_feed 6 (some .int) 2 0 0 [.ref x, .int a1, .int a2, .int a3, .int a4, .int a5] [ob x 6 [.ref (xa 0), .ref g, .ref (xa 2), .ref (xa 3), .ref (xa 4), .ref (xa 5), .ref (xa 6), .ref (xa 7), .int (nI tr), .int (nI fl), .int pl], ob (xa 0) 4 [.ref (ra 0), .int (nI fd), .ref (ra 2), .ref (ra 3), .int (nI re), .int (nI rk), .int (nI rp), .int (nI rn), .long rv, .int (nI (rh).toNat), .ref (ra 10), .ref (ra 11), .ref (ra 12), .int (nI rc), .int (nI rf), .int rw], aB E (ra 0) 900 tp] (roI [ob x 6 [.ref (xa 0), .ref g, .ref (xa 2), .ref (xa 3), .ref (xa 4), .ref (xa 5), .ref (xa 6), .ref (xa 7), .int (nI tr), .int (nI fl), .int pl], ob (xa 0) 4 [.ref (ra 0), .int (nI fd), .ref (ra 2), .ref (ra 3), .int (nI re), .int (nI rk), .int (nI rp), .int (nI rn), .long rv, .int (nI (rh).toNat), .ref (ra 10), .ref (ra 11), .ref (ra 12), .int (nI rc), .int (nI rf), .int rw], aB E (ra 0) 900 tp] (-1)) := by
  refine Ct.intro (by decide +kernel) (Nat.le_of_ble_eq_true rfl) (lv := [(0, .ref x), (1, .int a1), (2, .int a2), (3, .int a3), (4, .int a4), (5, .int a5)]) rfl ?_
  intro Z X Y
  refine v_aload_n X dX6_feed_0 rfl 0 rfl ?_
  refine v_get X kcX6 fl_X6_12 dX6_feed_1 0 rfl rfl ?_
  refine v_getN X kcX4 fl_X6_67 dX6_feed_4 1 rfl rfl ?_
  refine v_bipush X dX6_feed_7 (v := nI 20) (by decide) ?_
  refine v_iadd X dX6_feed_9 ?_
  refine v_eqi (x' := nI (fd + 20)) (nI_add _ _) ?_
  refine v_sipush X dX6_feed_10 (v := nI 900) (by decide) ?_
  refine v_icmpN_le X dX6_feed_13 (tgt := 18) (by decide) (by omega) (by decide) (fun h13 => ?_) (fun h13 => ?_)
  · exfalso; omega
  · refine v_iconst X dX6_feed_16 (v := (-1)) (by decide) ?_
    exact v_iret X Y dX6_feed_17 (roI_of rfl) (by omega) (by omega)
set_option maxRecDepth 100000 in
set_option maxHeartbeats 4000000 in
theorem c_X3_keepAct (l : Launch) (E : Et) (hp : Nat) (pq : Nat → Nat) (o : Nat) (ac : Nat) (im : Nat) (pa : Nat → Nat × Nat × Nat) (pk : Nat → Pv) (h2 : Nat) (hi2 : Nat) (hm2 : Nat) (t2 : Nat) (dd2 : Nat) (ink2 : Nat → Nat) (mn2 : Nat → Int32) (ho : o < 16) (hac : ac ≤ 16) : Ct l E yX3_keepAct cX3_keepAct 2 none 1 0 0 [.ref hp, .ref h2] ([ob hp 3 [.ref (pq 0), .ref (pq 1), .int (nI o), .int (nI ac), .int (nI im)], aP E (pq 0) 16 (fun i => some (pa i).1), ob h2 2 [.ref hi2, .ref hm2, .int (nI t2), .int (nI dd2)], aN E hi2 8 ink2, aI E hm2 8 mn2] ++ seg E pa 16 pk) (wrV ([ob hp 3 [.ref (pq 0), .ref (pq 1), .int (nI (kaO ac o)), .int (nI (kaA ac)), .int (nI im)], aP E (pq 0) 16 (fun i => some (pa i).1), ob h2 2 [.ref hi2, .ref hm2, .int (nI t2), .int (nI dd2)], aN E hi2 8 ink2, aI E hm2 8 mn2] ++ seg E pa 16 (upP pk ((o + ac) % 16) (ink2, mn2, t2, dd2)))) := by
  refine Ct.intro (by decide +kernel) (Nat.le_of_ble_eq_true rfl) (lv := [(0, .ref hp), (1, .ref h2)]) rfl ?_
  intro Z X Y
  refine v_aload_n X dX3_keepAct_0 rfl 0 rfl ?_
  refine v_get X kcX3 fl_X3_11 dX3_keepAct_1 0 rfl rfl ?_
  refine v_aload_n X dX3_keepAct_4 rfl 0 rfl ?_
  refine v_get X kcX3 fl_X3_28 dX3_keepAct_5 0 rfl rfl ?_
  refine v_aload_n X dX3_keepAct_8 rfl 0 rfl ?_
  refine v_get X kcX3 fl_X3_21 dX3_keepAct_9 0 rfl rfl ?_
  refine v_iadd X dX3_keepAct_12 ?_
  refine v_eqi (x' := nI (o + ac)) (nI_add _ _) ?_
  refine v_bipush X dX3_keepAct_13 (v := nI 16) (by decide) ?_
  refine v_irem X dX3_keepAct_15 (by decide) ?_
  refine v_eqi (x' := nI ((o + ac) % 16)) (pk_rem (by omega) (by omega) (by omega)) ?_
  refine v_aald X dX3_keepAct_16 1 rfl (Nat.mod_lt _ (by decide)) (by decide) ?_
  refine v_aload_n X dX3_keepAct_17 rfl 1 rfl ?_
  refine v_wrV1 X (rn_VN X k_X2_becomes ml_X3_31 dX3_keepAct_18 (c_X2_becomes l E (pa ((o + ac) % 16)).1 (pa ((o + ac) % 16)).2.1 (pa ((o + ac) % 16)).2.2 (pk ((o + ac) % 16)).2.2.1 (pk ((o + ac) % 16)).2.2.2 (pk ((o + ac) % 16)).1 (pk ((o + ac) % 16)).2.1 h2 hi2 hm2 t2 dd2 ink2 mn2) rfl 0 rfl rfl (by decide) (by decide) (by omega) (by omega) (Nat.le_of_ble_eq_true rfl)) [5 + 3 * ((o + ac) % 16), 5 + 3 * ((o + ac) % 16) + 1, 5 + 3 * ((o + ac) % 16) + 2, 2, 3, 4] (nd5 ((o + ac) % 16)) (sgA16 (Nat.mod_lt _ (by decide))) rfl (ws' := ([ob hp 3 [.ref (pq 0), .ref (pq 1), .int (nI o), .int (nI ac), .int (nI im)], aP E (pq 0) 16 (fun i => some (pa i).1), ob h2 2 [.ref hi2, .ref hm2, .int (nI t2), .int (nI dd2)], aN E hi2 8 ink2, aI E hm2 8 mn2] ++ seg E pa 16 (upP pk ((o + ac) % 16) (ink2, mn2, t2, dd2)))) (sgP16 (Nat.mod_lt _ (by decide)) (ink2, mn2, t2, dd2)) ?_
  refine v_aload_n X dX3_keepAct_21 rfl 0 rfl ?_
  refine v_get X kcX3 fl_X3_21 dX3_keepAct_22 0 rfl rfl ?_
  refine v_bipush X dX3_keepAct_25 (v := nI 16) (by decide) ?_
  refine v_icmpN_ge X dX3_keepAct_27 (tgt := 43) (by decide) (by omega) (by decide) (fun h27 => ?_) (fun h27 => ?_)
  · refine v_aload_n X dX3_keepAct_43 rfl 0 rfl ?_
    refine v_aload_n X dX3_keepAct_44 rfl 0 rfl ?_
    refine v_get X kcX3 fl_X3_28 dX3_keepAct_45 0 rfl rfl ?_
    refine v_iconst X dX3_keepAct_48 (v := nI 1) (by decide) ?_
    refine v_iadd X dX3_keepAct_49 ?_
    refine v_eqi (x' := nI (o + 1)) (nI_add _ _) ?_
    refine v_bipush X dX3_keepAct_50 (v := nI 16) (by decide) ?_
    refine v_irem X dX3_keepAct_52 (by decide) ?_
    refine v_eqi (x' := nI ((o + 1) % 16)) (pk_rem (by omega) (by omega) (by omega)) ?_
    refine v_put X kcX3 fl_X3_28 dX3_keepAct_53 0 rfl (ws' := ([ob hp 3 [.ref (pq 0), .ref (pq 1), .int (nI ((o + 1) % 16)), .int (nI ac), .int (nI im)], aP E (pq 0) 16 (fun i => some (pa i).1), ob h2 2 [.ref hi2, .ref hm2, .int (nI t2), .int (nI dd2)], aN E hi2 8 ink2, aI E hm2 8 mn2] ++ seg E pa 16 (upP pk ((o + ac) % 16) (ink2, mn2, t2, dd2)))) rfl rfl ?_
    exact v_vret X Y dX3_keepAct_56 (wrV_of (by rw [kaO, kaA, if_neg (by omega), if_neg (by omega)])) (by omega) (by omega)
  · refine v_aload_n X dX3_keepAct_30 rfl 0 rfl ?_
    refine v_dup X dX3_keepAct_31 rfl ?_
    refine v_get X kcX3 fl_X3_21 dX3_keepAct_32 0 rfl rfl ?_
    refine v_iconst X dX3_keepAct_35 (v := nI 1) (by decide) ?_
    refine v_iadd X dX3_keepAct_36 ?_
    refine v_eqi (x' := nI (ac + 1)) (nI_add _ _) ?_
    refine v_put X kcX3 fl_X3_21 dX3_keepAct_37 0 rfl (ws' := ([ob hp 3 [.ref (pq 0), .ref (pq 1), .int (nI o), .int (nI (ac + 1)), .int (nI im)], aP E (pq 0) 16 (fun i => some (pa i).1), ob h2 2 [.ref hi2, .ref hm2, .int (nI t2), .int (nI dd2)], aN E hi2 8 ink2, aI E hm2 8 mn2] ++ seg E pa 16 (upP pk ((o + ac) % 16) (ink2, mn2, t2, dd2)))) rfl rfl ?_
    refine v_goto X dX3_keepAct_40 (tgt := 56) (by decide) ?_
    exact v_vret X Y dX3_keepAct_56 (wrV_of (by rw [kaO, kaA, if_pos (by omega), if_pos (by omega)])) (by omega) (by omega)
set_option maxRecDepth 100000 in
set_option maxHeartbeats 4000000 in
theorem c_X3_undoInto (l : Launch) (E : Et) (hp : Nat) (pq : Nat → Nat) (o : Nat) (ac : Nat) (im : Nat) (pa : Nat → Nat × Nat × Nat) (pk : Nat → Pv) (h2 : Nat) (hi2 : Nat) (hm2 : Nat) (t2 : Nat) (dd2 : Nat) (ink2 : Nat → Nat) (mn2 : Nat → Int32) (ho : o < 16) (hac : ac ≤ 16) (h0 : ¬ ac = 0) : Ct l E yX3_undoInto cX3_undoInto 2 (some .boolean) 1 0 0 [.ref hp, .ref h2] ([ob hp 3 [.ref (pq 0), .ref (pq 1), .int (nI o), .int (nI ac), .int (nI im)], aP E (pq 0) 16 (fun i => some (pa i).1), ob h2 2 [.ref hi2, .ref hm2, .int (nI t2), .int (nI dd2)], aN E hi2 8 ink2, aI E hm2 8 mn2] ++ seg E pa 16 pk) (wrI ([ob hp 3 [.ref (pq 0), .ref (pq 1), .int (nI o), .int (nI (ac - 1)), .int (nI im)], aP E (pq 0) 16 (fun i => some (pa i).1), ob h2 2 [.ref hi2, .ref hm2, .int (nI ((pk ((o + (ac - 1)) % 16)).2.2.1)), .int (nI ((pk ((o + (ac - 1)) % 16)).2.2.2))], aN E hi2 8 ((pk ((o + (ac - 1)) % 16)).1), aI E hm2 8 ((pk ((o + (ac - 1)) % 16)).2.1)] ++ seg E pa 16 pk) (nI 1)) := by
  refine Ct.intro (by decide +kernel) (Nat.le_of_ble_eq_true rfl) (lv := [(0, .ref hp), (1, .ref h2)]) rfl ?_
  intro Z X Y
  refine v_aload_n X dX3_undoInto_0 rfl 0 rfl ?_
  refine v_get X kcX3 fl_X3_21 dX3_undoInto_1 0 rfl rfl ?_
  refine v_ifN_ne X dX3_undoInto_4 (tgt := 9) (by decide) (by omega) (fun h4 => ?_) (fun h4 => ?_)
  · refine v_aload_n X dX3_undoInto_9 rfl 0 rfl ?_
    refine v_dup X dX3_undoInto_10 rfl ?_
    refine v_get X kcX3 fl_X3_21 dX3_undoInto_11 0 rfl rfl ?_
    refine v_iconst X dX3_undoInto_14 (v := nI 1) (by decide) ?_
    refine v_isub X dX3_undoInto_15 ?_
    refine v_eqi (x' := nI (ac - 1)) (pk_sub (by omega)) ?_
    refine v_put X kcX3 fl_X3_21 dX3_undoInto_16 0 rfl (ws' := ([ob hp 3 [.ref (pq 0), .ref (pq 1), .int (nI o), .int (nI (ac - 1)), .int (nI im)], aP E (pq 0) 16 (fun i => some (pa i).1), ob h2 2 [.ref hi2, .ref hm2, .int (nI t2), .int (nI dd2)], aN E hi2 8 ink2, aI E hm2 8 mn2] ++ seg E pa 16 pk)) rfl rfl ?_
    refine v_aload_n X dX3_undoInto_19 rfl 1 rfl ?_
    refine v_aload_n X dX3_undoInto_20 rfl 0 rfl ?_
    refine v_get X kcX3 fl_X3_11 dX3_undoInto_21 0 rfl rfl ?_
    refine v_aload_n X dX3_undoInto_24 rfl 0 rfl ?_
    refine v_get X kcX3 fl_X3_28 dX3_undoInto_25 0 rfl rfl ?_
    refine v_aload_n X dX3_undoInto_28 rfl 0 rfl ?_
    refine v_get X kcX3 fl_X3_21 dX3_undoInto_29 0 rfl rfl ?_
    refine v_iadd X dX3_undoInto_32 ?_
    refine v_eqi (x' := nI (o + (ac - 1))) (nI_add _ _) ?_
    refine v_bipush X dX3_undoInto_33 (v := nI 16) (by decide) ?_
    refine v_irem X dX3_undoInto_35 (by decide) ?_
    refine v_eqi (x' := nI ((o + (ac - 1)) % 16)) (pk_rem (by omega) (by omega) (by omega)) ?_
    refine v_aald X dX3_undoInto_36 1 rfl (Nat.mod_lt _ (by decide)) (by decide) ?_
    refine v_wrV1 X (rn_VN X k_X2_becomes ml_X3_31 dX3_undoInto_37 (c_X2_becomes l E h2 hi2 hm2 t2 dd2 ink2 mn2 (pa ((o + (ac - 1)) % 16)).1 (pa ((o + (ac - 1)) % 16)).2.1 (pa ((o + (ac - 1)) % 16)).2.2 (pk ((o + (ac - 1)) % 16)).2.2.1 (pk ((o + (ac - 1)) % 16)).2.2.2 (pk ((o + (ac - 1)) % 16)).1 (pk ((o + (ac - 1)) % 16)).2.1) rfl 0 rfl rfl (by decide) (by decide) (by omega) (by omega) (Nat.le_of_ble_eq_true rfl)) [2, 3, 4, 5 + 3 * ((o + (ac - 1)) % 16), 5 + 3 * ((o + (ac - 1)) % 16) + 1, 5 + 3 * ((o + (ac - 1)) % 16) + 2] (nd5' ((o + (ac - 1)) % 16)) (sgB16 (Nat.mod_lt _ (by decide))) rfl (ws' := ([ob hp 3 [.ref (pq 0), .ref (pq 1), .int (nI o), .int (nI (ac - 1)), .int (nI im)], aP E (pq 0) 16 (fun i => some (pa i).1), ob h2 2 [.ref hi2, .ref hm2, .int (nI ((pk ((o + (ac - 1)) % 16)).2.2.1)), .int (nI ((pk ((o + (ac - 1)) % 16)).2.2.2))], aN E hi2 8 ((pk ((o + (ac - 1)) % 16)).1), aI E hm2 8 ((pk ((o + (ac - 1)) % 16)).2.1)] ++ seg E pa 16 pk)) (sgQ16 (Nat.mod_lt _ (by decide))) ?_
    refine v_iconst X dX3_undoInto_40 (v := nI 1) (by decide) ?_
    exact v_zret X Y dX3_undoInto_41 (by decide) (wrI_of rfl rfl) (by omega) (by omega)
  · exfalso; omega
set_option maxRecDepth 100000 in
set_option maxHeartbeats 4000000 in
theorem c_X3_undoInto_no (l : Launch) (E : Et) (hp : Nat) (pq : Nat → Nat) (o : Nat) (im : Nat) (h2 : Nat)  : Ct l E yX3_undoInto cX3_undoInto 2 (some .boolean) 1 0 0 [.ref hp, .ref h2] [ob hp 3 [.ref (pq 0), .ref (pq 1), .int (nI o), .int (nI 0), .int (nI im)]] (roI [ob hp 3 [.ref (pq 0), .ref (pq 1), .int (nI o), .int (nI 0), .int (nI im)]] (nI 0)) := by
  refine Ct.intro (by decide +kernel) (Nat.le_of_ble_eq_true rfl) (lv := [(0, .ref hp), (1, .ref h2)]) rfl ?_
  intro Z X Y
  refine v_aload_n X dX3_undoInto_0 rfl 0 rfl ?_
  refine v_get X kcX3 fl_X3_21 dX3_undoInto_1 0 rfl rfl ?_
  refine v_ifN_ne X dX3_undoInto_4 (tgt := 9) (by decide) (by decide) (fun h4 => ?_) (fun h4 => ?_)
  · exfalso; omega
  · refine v_iconst X dX3_undoInto_7 (v := nI 0) (by decide) ?_
    exact v_zret X Y dX3_undoInto_8 (by decide) (roI_of rfl) (by omega) (by omega)
set_option maxRecDepth 100000 in
set_option maxHeartbeats 4000000 in
theorem c_X3_keepImage (l : Launch) (E : Et) (hp : Nat) (pq : Nat → Nat) (o : Nat) (ac : Nat) (im : Nat) (pb : Nat → Nat × Nat × Nat) (pj : Nat → Pv) (h2 : Nat) (hi2 : Nat) (hm2 : Nat) (t2 : Nat) (dd2 : Nat) (ink2 : Nat → Nat) (mn2 : Nat → Int32) (him : im < 3) : Ct l E yX3_keepImage cX3_keepImage 2 (some .int) 1 0 0 [.ref hp, .ref h2] ([ob hp 3 [.ref (pq 0), .ref (pq 1), .int (nI o), .int (nI ac), .int (nI im)], aP E (pq 1) 3 (fun i => some (pb i).1), ob h2 2 [.ref hi2, .ref hm2, .int (nI t2), .int (nI dd2)], aN E hi2 8 ink2, aI E hm2 8 mn2] ++ seg E pb 3 pj) (wrI ([ob hp 3 [.ref (pq 0), .ref (pq 1), .int (nI o), .int (nI ac), .int (nI (im + 1))], aP E (pq 1) 3 (fun i => some (pb i).1), ob h2 2 [.ref hi2, .ref hm2, .int (nI t2), .int (nI dd2)], aN E hi2 8 ink2, aI E hm2 8 mn2] ++ seg E pb 3 (upP pj im (ink2, mn2, t2, dd2))) (nI im)) := by
  refine Ct.intro (by decide +kernel) (Nat.le_of_ble_eq_true rfl) (lv := [(0, .ref hp), (1, .ref h2)]) rfl ?_
  intro Z X Y
  refine v_aload_n X dX3_keepImage_0 rfl 0 rfl ?_
  refine v_get X kcX3 fl_X3_25 dX3_keepImage_1 0 rfl rfl ?_
  refine v_iconst X dX3_keepImage_4 (v := nI 3) (by decide) ?_
  refine v_icmpN_lt X dX3_keepImage_5 (tgt := 10) (by decide) (by omega) (by decide) (fun h5 => ?_) (fun h5 => ?_)
  · refine v_aload_n X dX3_keepImage_10 rfl 0 rfl ?_
    refine v_get X kcX3 fl_X3_17 dX3_keepImage_11 0 rfl rfl ?_
    refine v_aload_n X dX3_keepImage_14 rfl 0 rfl ?_
    refine v_get X kcX3 fl_X3_25 dX3_keepImage_15 0 rfl rfl ?_
    refine v_aald X dX3_keepImage_18 1 rfl him (by decide) ?_
    refine v_aload_n X dX3_keepImage_19 rfl 1 rfl ?_
    refine v_wrV1 X (rn_VN X k_X2_becomes ml_X3_31 dX3_keepImage_20 (c_X2_becomes l E (pb im).1 (pb im).2.1 (pb im).2.2 (pj im).2.2.1 (pj im).2.2.2 (pj im).1 (pj im).2.1 h2 hi2 hm2 t2 dd2 ink2 mn2) rfl 0 rfl rfl (by decide) (by decide) (by omega) (by omega) (Nat.le_of_ble_eq_true rfl)) [5 + 3 * im, 5 + 3 * im + 1, 5 + 3 * im + 2, 2, 3, 4] (nd5 im) (sgA3 him) rfl (ws' := ([ob hp 3 [.ref (pq 0), .ref (pq 1), .int (nI o), .int (nI ac), .int (nI im)], aP E (pq 1) 3 (fun i => some (pb i).1), ob h2 2 [.ref hi2, .ref hm2, .int (nI t2), .int (nI dd2)], aN E hi2 8 ink2, aI E hm2 8 mn2] ++ seg E pb 3 (upP pj im (ink2, mn2, t2, dd2)))) (sgP3 him (ink2, mn2, t2, dd2)) ?_
    refine v_aload_n X dX3_keepImage_23 rfl 0 rfl ?_
    refine v_dup X dX3_keepImage_24 rfl ?_
    refine v_get X kcX3 fl_X3_25 dX3_keepImage_25 0 rfl rfl ?_
    refine v_iconst X dX3_keepImage_28 (v := nI 1) (by decide) ?_
    refine v_iadd X dX3_keepImage_29 ?_
    refine v_eqi (x' := nI (im + 1)) (nI_add _ _) ?_
    refine v_put X kcX3 fl_X3_25 dX3_keepImage_30 0 rfl (ws' := ([ob hp 3 [.ref (pq 0), .ref (pq 1), .int (nI o), .int (nI ac), .int (nI (im + 1))], aP E (pq 1) 3 (fun i => some (pb i).1), ob h2 2 [.ref hi2, .ref hm2, .int (nI t2), .int (nI dd2)], aN E hi2 8 ink2, aI E hm2 8 mn2] ++ seg E pb 3 (upP pj im (ink2, mn2, t2, dd2)))) rfl rfl ?_
    refine v_aload_n X dX3_keepImage_33 rfl 0 rfl ?_
    refine v_get X kcX3 fl_X3_25 dX3_keepImage_34 0 rfl rfl ?_
    refine v_iconst X dX3_keepImage_37 (v := nI 1) (by decide) ?_
    refine v_isub X dX3_keepImage_38 ?_
    refine v_eqi (x' := nI im) (pk_sub (by omega)) ?_
    exact v_iret X Y dX3_keepImage_39 (wrI_of rfl rfl) (by omega) (by omega)
  · exfalso; omega
set_option maxRecDepth 100000 in
set_option maxHeartbeats 4000000 in
theorem c_X3_keepImage_no (l : Launch) (E : Et) (hp : Nat) (pq : Nat → Nat) (o : Nat) (ac : Nat) (im : Nat) (h2 : Nat) (him : im = 3) : Ct l E yX3_keepImage cX3_keepImage 2 (some .int) 1 0 0 [.ref hp, .ref h2] [ob hp 3 [.ref (pq 0), .ref (pq 1), .int (nI o), .int (nI ac), .int (nI im)]] (roI [ob hp 3 [.ref (pq 0), .ref (pq 1), .int (nI o), .int (nI ac), .int (nI im)]] (-1)) := by
  refine Ct.intro (by decide +kernel) (Nat.le_of_ble_eq_true rfl) (lv := [(0, .ref hp), (1, .ref h2)]) rfl ?_
  intro Z X Y
  refine v_aload_n X dX3_keepImage_0 rfl 0 rfl ?_
  refine v_get X kcX3 fl_X3_25 dX3_keepImage_1 0 rfl rfl ?_
  refine v_iconst X dX3_keepImage_4 (v := nI 3) (by decide) ?_
  refine v_icmpN_lt X dX3_keepImage_5 (tgt := 10) (by decide) (by omega) (by decide) (fun h5 => ?_) (fun h5 => ?_)
  · exfalso; omega
  · refine v_iconst X dX3_keepImage_8 (v := (-1)) (by decide) ?_
    exact v_iret X Y dX3_keepImage_9 (roI_of rfl) (by omega) (by omega)
set_option maxRecDepth 100000 in
set_option maxHeartbeats 4000000 in
theorem c_X3_goBackInto (l : Launch) (E : Et) (hp : Nat) (pq : Nat → Nat) (o : Nat) (ac : Nat) (im : Nat) (pb : Nat → Nat × Nat × Nat) (pj : Nat → Pv) (h2 : Nat) (hi2 : Nat) (hm2 : Nat) (t2 : Nat) (dd2 : Nat) (ink2 : Nat → Nat) (mn2 : Nat → Int32) (k : Nat) (him : im ≤ 3) (hk : k < im) : Ct l E yX3_goBackInto cX3_goBackInto 3 (some .boolean) 1 0 0 [.ref hp, .ref h2, .int (nI k)] ([ob hp 3 [.ref (pq 0), .ref (pq 1), .int (nI o), .int (nI ac), .int (nI im)], aP E (pq 1) 3 (fun i => some (pb i).1), ob h2 2 [.ref hi2, .ref hm2, .int (nI t2), .int (nI dd2)], aN E hi2 8 ink2, aI E hm2 8 mn2] ++ seg E pb 3 pj) (wrI ([ob hp 3 [.ref (pq 0), .ref (pq 1), .int (nI o), .int (nI 0), .int (nI im)], aP E (pq 1) 3 (fun i => some (pb i).1), ob h2 2 [.ref hi2, .ref hm2, .int (nI ((pj k).2.2.1)), .int (nI ((pj k).2.2.2))], aN E hi2 8 ((pj k).1), aI E hm2 8 ((pj k).2.1)] ++ seg E pb 3 pj) (nI 1)) := by
  refine Ct.intro (by decide +kernel) (Nat.le_of_ble_eq_true rfl) (lv := [(0, .ref hp), (1, .ref h2), (2, .int (nI k))]) rfl ?_
  intro Z X Y
  refine v_iload_n X dX3_goBackInto_0 rfl 2 rfl ?_
  refine v_if_lt X dX3_goBackInto_1 (tgt := 12) (by decide) (fun h1 => ?_) (fun h1 => ?_)
  · exact absurd h1 (nI_pos (by omega))
  · refine v_iload_n X dX3_goBackInto_4 rfl 2 rfl ?_
    refine v_aload_n X dX3_goBackInto_5 rfl 0 rfl ?_
    refine v_get X kcX3 fl_X3_25 dX3_goBackInto_6 0 rfl rfl ?_
    refine v_icmpN_lt X dX3_goBackInto_9 (tgt := 14) (by decide) (by omega) (by omega) (fun h9 => ?_) (fun h9 => ?_)
    · refine v_aload_n X dX3_goBackInto_14 rfl 1 rfl ?_
      refine v_aload_n X dX3_goBackInto_15 rfl 0 rfl ?_
      refine v_get X kcX3 fl_X3_17 dX3_goBackInto_16 0 rfl rfl ?_
      refine v_iload_n X dX3_goBackInto_19 rfl 2 rfl ?_
      refine v_aald X dX3_goBackInto_20 1 rfl (by omega) (by decide) ?_
      refine v_wrV1 X (rn_VN X k_X2_becomes ml_X3_31 dX3_goBackInto_21 (c_X2_becomes l E h2 hi2 hm2 t2 dd2 ink2 mn2 (pb k).1 (pb k).2.1 (pb k).2.2 (pj k).2.2.1 (pj k).2.2.2 (pj k).1 (pj k).2.1) rfl 0 rfl rfl (by decide) (by decide) (by omega) (by omega) (Nat.le_of_ble_eq_true rfl)) [2, 3, 4, 5 + 3 * k, 5 + 3 * k + 1, 5 + 3 * k + 2] (nd5' k) (sgB3 (show k < 3 by omega)) rfl (ws' := ([ob hp 3 [.ref (pq 0), .ref (pq 1), .int (nI o), .int (nI ac), .int (nI im)], aP E (pq 1) 3 (fun i => some (pb i).1), ob h2 2 [.ref hi2, .ref hm2, .int (nI ((pj k).2.2.1)), .int (nI ((pj k).2.2.2))], aN E hi2 8 ((pj k).1), aI E hm2 8 ((pj k).2.1)] ++ seg E pb 3 pj)) (sgQ3 (show k < 3 by omega)) ?_
      refine v_aload_n X dX3_goBackInto_24 rfl 0 rfl ?_
      refine v_iconst X dX3_goBackInto_25 (v := nI 0) (by decide) ?_
      refine v_put X kcX3 fl_X3_21 dX3_goBackInto_26 0 rfl (ws' := ([ob hp 3 [.ref (pq 0), .ref (pq 1), .int (nI o), .int (nI 0), .int (nI im)], aP E (pq 1) 3 (fun i => some (pb i).1), ob h2 2 [.ref hi2, .ref hm2, .int (nI ((pj k).2.2.1)), .int (nI ((pj k).2.2.2))], aN E hi2 8 ((pj k).1), aI E hm2 8 ((pj k).2.1)] ++ seg E pb 3 pj)) rfl rfl ?_
      refine v_iconst X dX3_goBackInto_29 (v := nI 1) (by decide) ?_
      exact v_zret X Y dX3_goBackInto_30 (by decide) (wrI_of rfl rfl) (by omega) (by omega)
    · exfalso; omega
set_option maxRecDepth 100000 in
set_option maxHeartbeats 4000000 in
theorem c_X3_goBackInto_no (l : Launch) (E : Et) (hp : Nat) (pq : Nat → Nat) (o : Nat) (ac : Nat) (im : Nat) (h2 : Nat) (k : Int32) (hk : ¬ okM k im) : Ct l E yX3_goBackInto cX3_goBackInto 3 (some .boolean) 1 0 0 [.ref hp, .ref h2, .int k] [ob hp 3 [.ref (pq 0), .ref (pq 1), .int (nI o), .int (nI ac), .int (nI im)]] (roI [ob hp 3 [.ref (pq 0), .ref (pq 1), .int (nI o), .int (nI ac), .int (nI im)]] (nI 0)) := by
  refine Ct.intro (by decide +kernel) (Nat.le_of_ble_eq_true rfl) (lv := [(0, .ref hp), (1, .ref h2), (2, .int k)]) rfl ?_
  intro Z X Y
  refine v_iload_n X dX3_goBackInto_0 rfl 2 rfl ?_
  refine v_if_lt X dX3_goBackInto_1 (tgt := 12) (by decide) (fun h1 => ?_) (fun h1 => ?_)
  · refine v_iconst X dX3_goBackInto_12 (v := nI 0) (by decide) ?_
    exact v_zret X Y dX3_goBackInto_13 (by decide) (roI_of rfl) (by omega) (by omega)
  · refine v_iload_n X dX3_goBackInto_4 rfl 2 rfl ?_
    refine v_aload_n X dX3_goBackInto_5 rfl 0 rfl ?_
    refine v_get X kcX3 fl_X3_25 dX3_goBackInto_6 0 rfl rfl ?_
    refine v_icmp_lt X dX3_goBackInto_9 (tgt := 14) (by decide) (fun h9 => ?_) (fun h9 => ?_)
    · exact absurd ⟨Int32.not_lt.mp h1, h9⟩ hk
    · refine v_iconst X dX3_goBackInto_12 (v := nI 0) (by decide) ?_
      exact v_zret X Y dX3_goBackInto_13 (by decide) (roI_of rfl) (by omega) (by omega)
set_option maxRecDepth 100000 in
set_option maxHeartbeats 4000000 in
theorem c_X3_forget (l : Launch) (E : Et) (hp : Nat) (pq : Nat → Nat) (o : Nat) (ac : Nat) (im : Nat)  : Ct l E yX3_forget cX3_forget 1 none 0 0 0 [.ref hp] [ob hp 3 [.ref (pq 0), .ref (pq 1), .int (nI o), .int (nI ac), .int (nI im)]] (wrV [ob hp 3 [.ref (pq 0), .ref (pq 1), .int (nI o), .int (nI 0), .int (nI 0)]]) := by
  refine Ct.intro (by decide +kernel) (Nat.le_of_ble_eq_true rfl) (lv := [(0, .ref hp)]) rfl ?_
  intro Z X Y
  refine v_aload_n X dX3_forget_0 rfl 0 rfl ?_
  refine v_iconst X dX3_forget_1 (v := nI 0) (by decide) ?_
  refine v_put X kcX3 fl_X3_21 dX3_forget_2 0 rfl (ws' := [ob hp 3 [.ref (pq 0), .ref (pq 1), .int (nI o), .int (nI 0), .int (nI im)]]) rfl rfl ?_
  refine v_aload_n X dX3_forget_5 rfl 0 rfl ?_
  refine v_iconst X dX3_forget_6 (v := nI 0) (by decide) ?_
  refine v_put X kcX3 fl_X3_25 dX3_forget_7 0 rfl (ws' := [ob hp 3 [.ref (pq 0), .ref (pq 1), .int (nI o), .int (nI 0), .int (nI 0)]]) rfl rfl ?_
  exact v_vret X Y dX3_forget_10 (wrV_of rfl) (by omega) (by omega)
