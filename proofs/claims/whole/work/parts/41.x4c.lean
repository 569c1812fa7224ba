set_option maxRecDepth 100000 in
set_option maxHeartbeats 4000000 in
theorem c_X4_tellsName (l : Launch) (E : Et) (hr : Nat) (ra : Nat → Nat) (fd : Nat) (re : Nat) (rk : Nat) (rp : Nat) (rn : Nat) (rv : Int64) (rh : Bool) (rc : Nat) (rf : Nat) (rw : Int32) (tp : Nat → Int32) (kwd : Nat → Int64) (nms : Nat → Int64) (nso : Nat → Nat) (nnu : Nat → Nat) (so : Nat) (nu : Nat) (hre : re ≤ 900) (hrn : rn ≤ re) (hrk : rk ≤ 5) (hrc : rc ≤ 18) : Ct l E yX4_tellsName cX4_tellsName 3 (some .boolean) 4 0 0 [.ref hr, .int (nI so), .int (nI nu)] [ob hr 4 [.ref (ra 0), .int (nI fd), .ref (ra 2), .ref (ra 3), .int (nI re), .int (nI rk), .int (nI rp), .int (nI rn), .long rv, .int (nI (rh).toNat), .ref (ra 10), .ref (ra 11), .ref (ra 12), .int (nI rc), .int (nI rf), .int rw], aB E (ra 0) 900 tp, aL E (ra 2) 6 kwd, aL E (ra 10) 18 nms, aN E (ra 11) 18 nso, aN E (ra 12) 18 nnu] (wrI [ob hr 4 [.ref (ra 0), .int (nI fd), .ref (ra 2), .ref (ra 3), .int (nI re), .int (nI ((tnF tp re kwd so nu ((rk, rp, rn, rv), rf, rw) (rc, nms, nso, nnu)).2.1.1.1)), .int (nI ((tnF tp re kwd so nu ((rk, rp, rn, rv), rf, rw) (rc, nms, nso, nnu)).2.1.1.2.1)), .int (nI ((tnF tp re kwd so nu ((rk, rp, rn, rv), rf, rw) (rc, nms, nso, nnu)).2.1.1.2.2.1)), .long ((tnF tp re kwd so nu ((rk, rp, rn, rv), rf, rw) (rc, nms, nso, nnu)).2.1.1.2.2.2), .int (nI (rh).toNat), .ref (ra 10), .ref (ra 11), .ref (ra 12), .int (nI ((tnF tp re kwd so nu ((rk, rp, rn, rv), rf, rw) (rc, nms, nso, nnu)).2.2.1)), .int (nI ((tnF tp re kwd so nu ((rk, rp, rn, rv), rf, rw) (rc, nms, nso, nnu)).2.1.2.1)), .int ((tnF tp re kwd so nu ((rk, rp, rn, rv), rf, rw) (rc, nms, nso, nnu)).2.1.2.2)], aB E (ra 0) 900 tp, aL E (ra 2) 6 kwd, aL E (ra 10) 18 ((tnF tp re kwd so nu ((rk, rp, rn, rv), rf, rw) (rc, nms, nso, nnu)).2.2.2.1), aN E (ra 11) 18 ((tnF tp re kwd so nu ((rk, rp, rn, rv), rf, rw) (rc, nms, nso, nnu)).2.2.2.2.1), aN E (ra 12) 18 ((tnF tp re kwd so nu ((rk, rp, rn, rv), rf, rw) (rc, nms, nso, nnu)).2.2.2.2.2)] (nI ((tnF tp re kwd so nu ((rk, rp, rn, rv), rf, rw) (rc, nms, nso, nnu)).1).toNat)) := by
  refine Ct.intro (by decide +kernel) (Nat.le_of_ble_eq_true rfl) (lv := [(0, .ref hr), (1, .int (nI so)), (2, .int (nI nu))]) rfl ?_
  intro Z X Y
  refine v_aload_n X dX4_tellsName_0 rfl 0 rfl ?_
  refine v_roI1 X (rn_V X k_X4_isName ml_X4_137 dX4_tellsName_1 (c_X4_isName l E hr ra fd re rk rp rn rv rh rc rf rw kwd (by first | assumption | omega)) rfl 0 rfl rfl (by decide) (by decide) (by omega) (by omega) (Nat.le_of_ble_eq_true rfl)) [0, 2] rfl rfl ?_
  refine v_ifB_ne X dX4_tellsName_4 (tgt := 13) (by decide) (fun h4 => ?_) (fun h4 => ?_)
  · refine v_aload_n X dX4_tellsName_13 rfl 0 rfl ?_
    refine v_roI1 X (rn_V X k_X4_nameHere ml_X4_140 dX4_tellsName_14 (c_X4_nameHere l E hr ra fd re rk rp rn rv rh rc rf rw nms (by first | assumption | omega)) rfl 0 rfl rfl (by decide) (by decide) (by omega) (by omega) (Nat.le_of_ble_eq_true rfl)) [0, 3] rfl rfl ?_
    refine v_iconst X dX4_tellsName_17 (v := (-1)) (by decide) ?_
    refine v_icmp_ne X dX4_tellsName_18 (tgt := 30) (by decide) (fun h18 => ?_) (fun h18 => ?_)
    · refine v_aload_n X dX4_tellsName_30 rfl 0 rfl ?_
      refine v_iconst X dX4_tellsName_31 (v := nI 3) (by decide) ?_
      refine v_wrI1 X (rn_V X k_X4_fails ml_X4_99 dX4_tellsName_32 (c_X4_fails l E hr ra fd re rk rp rn rv rh rc rf rw 3 ) rfl 0 rfl rfl (by decide) (by decide) (by omega) (by omega) (Nat.le_of_ble_eq_true rfl)) [0] rfl rfl (ws' := [ob hr 4 [.ref (ra 0), .int (nI fd), .ref (ra 2), .ref (ra 3), .int (nI re), .int (nI rk), .int (nI rp), .int (nI rn), .long rv, .int (nI (rh).toNat), .ref (ra 10), .ref (ra 11), .ref (ra 12), .int (nI rc), .int (nI 3), .int (nI rp)], aB E (ra 0) 900 tp, aL E (ra 2) 6 kwd, aL E (ra 10) 18 nms, aN E (ra 11) 18 nso, aN E (ra 12) 18 nnu]) rfl rfl ?_
      exact v_zret X Y dX4_tellsName_35 (by decide) (wrI_of (by rw [tn_ag (s := ((rk, rp, rn, rv), rf, rw)) (w := (rc, nms, nso, nnu)) (of_decide_eq_true h4) (fun q => h18 ((optJ_ne (n := 18) (fun q h => by have := (fst_lt _ _ _ h).1; omega) (by decide)).mpr q.1))]) (by rw [tn_ag (s := ((rk, rp, rn, rv), rf, rw)) (w := (rc, nms, nso, nnu)) (of_decide_eq_true h4) (fun q => h18 ((optJ_ne (n := 18) (fun q h => by have := (fst_lt _ _ _ h).1; omega) (by decide)).mpr q.1))]; rfl)) (by omega) (by omega)
    · refine v_aload_n X dX4_tellsName_21 rfl 0 rfl ?_
      refine v_get X kcX4 fl_X4_70 dX4_tellsName_22 0 rfl rfl ?_
      refine v_bipush X dX4_tellsName_25 (v := nI 18) (by decide) ?_
      refine v_icmpN_lt X dX4_tellsName_27 (tgt := 36) (by decide) (by omega) (by decide) (fun h27 => ?_) (fun h27 => ?_)
      · refine v_aload_n X dX4_tellsName_36 rfl 0 rfl ?_
        refine v_get X kcX4 fl_X4_15 dX4_tellsName_37 0 rfl rfl ?_
        refine v_aload_n X dX4_tellsName_40 rfl 0 rfl ?_
        refine v_get X kcX4 fl_X4_70 dX4_tellsName_41 0 rfl rfl ?_
        refine v_aload_n X dX4_tellsName_44 rfl 0 rfl ?_
        refine v_get X kcX4 fl_X4_114 dX4_tellsName_45 0 rfl rfl ?_
        refine v_last X dX4_tellsName_48 3 rfl (by omega) (by decide) (ws' := [ob hr 4 [.ref (ra 0), .int (nI fd), .ref (ra 2), .ref (ra 3), .int (nI re), .int (nI rk), .int (nI rp), .int (nI rn), .long rv, .int (nI (rh).toNat), .ref (ra 10), .ref (ra 11), .ref (ra 12), .int (nI rc), .int (nI rf), .int rw], aB E (ra 0) 900 tp, aL E (ra 2) 6 kwd, aL E (ra 10) 18 (vp_updL nms rc rv), aN E (ra 11) 18 nso, aN E (ra 12) 18 nnu]) rfl ?_
        refine v_aload_n X dX4_tellsName_49 rfl 0 rfl ?_
        refine v_get X kcX4 fl_X4_19 dX4_tellsName_50 0 rfl rfl ?_
        refine v_aload_n X dX4_tellsName_53 rfl 0 rfl ?_
        refine v_get X kcX4 fl_X4_70 dX4_tellsName_54 0 rfl rfl ?_
        refine v_iload_n X dX4_tellsName_57 rfl 1 rfl ?_
        refine v_iast X dX4_tellsName_58 4 rfl (by omega) (by decide) (ws' := [ob hr 4 [.ref (ra 0), .int (nI fd), .ref (ra 2), .ref (ra 3), .int (nI re), .int (nI rk), .int (nI rp), .int (nI rn), .long rv, .int (nI (rh).toNat), .ref (ra 10), .ref (ra 11), .ref (ra 12), .int (nI rc), .int (nI rf), .int rw], aB E (ra 0) 900 tp, aL E (ra 2) 6 kwd, aL E (ra 10) 18 (vp_updL nms rc rv), aN E (ra 11) 18 (upN nso rc so), aN E (ra 12) 18 nnu]) (by rw [upd_nI]; rfl) ?_
        refine v_aload_n X dX4_tellsName_59 rfl 0 rfl ?_
        refine v_get X kcX4 fl_X4_23 dX4_tellsName_60 0 rfl rfl ?_
        refine v_aload_n X dX4_tellsName_63 rfl 0 rfl ?_
        refine v_get X kcX4 fl_X4_70 dX4_tellsName_64 0 rfl rfl ?_
        refine v_iload_n X dX4_tellsName_67 rfl 2 rfl ?_
        refine v_iast X dX4_tellsName_68 5 rfl (by omega) (by decide) (ws' := [ob hr 4 [.ref (ra 0), .int (nI fd), .ref (ra 2), .ref (ra 3), .int (nI re), .int (nI rk), .int (nI rp), .int (nI rn), .long rv, .int (nI (rh).toNat), .ref (ra 10), .ref (ra 11), .ref (ra 12), .int (nI rc), .int (nI rf), .int rw], aB E (ra 0) 900 tp, aL E (ra 2) 6 kwd, aL E (ra 10) 18 (vp_updL nms rc rv), aN E (ra 11) 18 (upN nso rc so), aN E (ra 12) 18 (upN nnu rc nu)]) (by rw [upd_nI]; rfl) ?_
        refine v_aload_n X dX4_tellsName_69 rfl 0 rfl ?_
        refine v_dup X dX4_tellsName_70 rfl ?_
        refine v_get X kcX4 fl_X4_70 dX4_tellsName_71 0 rfl rfl ?_
        refine v_iconst X dX4_tellsName_74 (v := nI 1) (by decide) ?_
        refine v_iadd X dX4_tellsName_75 ?_
        refine v_eqi (x' := nI (rc + 1)) (nI_add _ _) ?_
        refine v_put X kcX4 fl_X4_70 dX4_tellsName_76 0 rfl (ws' := [ob hr 4 [.ref (ra 0), .int (nI fd), .ref (ra 2), .ref (ra 3), .int (nI re), .int (nI rk), .int (nI rp), .int (nI rn), .long rv, .int (nI (rh).toNat), .ref (ra 10), .ref (ra 11), .ref (ra 12), .int (nI (rc + 1)), .int (nI rf), .int rw], aB E (ra 0) 900 tp, aL E (ra 2) 6 kwd, aL E (ra 10) 18 (vp_updL nms rc rv), aN E (ra 11) 18 (upN nso rc so), aN E (ra 12) 18 (upN nnu rc nu)]) rfl rfl ?_
        refine v_aload_n X dX4_tellsName_79 rfl 0 rfl ?_
        refine v_wrV1 X (rn_V X k_X4_advance ml_X4_83 dX4_tellsName_80 (c_X4_advance l E hr ra fd re rk rp rn rv rh (rc + 1) rf rw tp (by first | assumption | omega) (by first | assumption | omega)) rfl 0 rfl rfl (by decide) (by decide) (by omega) (by omega) (Nat.le_of_ble_eq_true rfl)) [0, 1] rfl rfl (ws' := [ob hr 4 [.ref (ra 0), .int (nI fd), .ref (ra 2), .ref (ra 3), .int (nI re), .int (nI ((advF tp re rn rv).1)), .int (nI ((advF tp re rn rv).2.1)), .int (nI ((advF tp re rn rv).2.2.1)), .long ((advF tp re rn rv).2.2.2), .int (nI (rh).toNat), .ref (ra 10), .ref (ra 11), .ref (ra 12), .int (nI (rc + 1)), .int (nI rf), .int rw], aB E (ra 0) 900 tp, aL E (ra 2) 6 kwd, aL E (ra 10) 18 (vp_updL nms rc rv), aN E (ra 11) 18 (upN nso rc so), aN E (ra 12) 18 (upN nnu rc nu)]) rfl rfl ?_
        refine v_iconst X dX4_tellsName_83 (v := nI 1) (by decide) ?_
        exact v_zret X Y dX4_tellsName_84 (by decide) (wrI_of (by rw [tn_ok (s := ((rk, rp, rn, rv), rf, rw)) (w := (rc, nms, nso, nnu)) (of_decide_eq_true h4) ⟨(optJ_ne (n := 18) (fun q h => by have := (fst_lt _ _ _ h).1; omega) (by decide)).mp h18, h27⟩]) (by rw [tn_ok (s := ((rk, rp, rn, rv), rf, rw)) (w := (rc, nms, nso, nnu)) (of_decide_eq_true h4) ⟨(optJ_ne (n := 18) (fun q h => by have := (fst_lt _ _ _ h).1; omega) (by decide)).mp h18, h27⟩]; rfl)) (by omega) (by omega)
      · refine v_aload_n X dX4_tellsName_30 rfl 0 rfl ?_
        refine v_iconst X dX4_tellsName_31 (v := nI 3) (by decide) ?_
        refine v_wrI1 X (rn_V X k_X4_fails ml_X4_99 dX4_tellsName_32 (c_X4_fails l E hr ra fd re rk rp rn rv rh rc rf rw 3 ) rfl 0 rfl rfl (by decide) (by decide) (by omega) (by omega) (Nat.le_of_ble_eq_true rfl)) [0] rfl rfl (ws' := [ob hr 4 [.ref (ra 0), .int (nI fd), .ref (ra 2), .ref (ra 3), .int (nI re), .int (nI rk), .int (nI rp), .int (nI rn), .long rv, .int (nI (rh).toNat), .ref (ra 10), .ref (ra 11), .ref (ra 12), .int (nI rc), .int (nI 3), .int (nI rp)], aB E (ra 0) 900 tp, aL E (ra 2) 6 kwd, aL E (ra 10) 18 nms, aN E (ra 11) 18 nso, aN E (ra 12) 18 nnu]) rfl rfl ?_
        exact v_zret X Y dX4_tellsName_35 (by decide) (wrI_of (by rw [tn_ag (s := ((rk, rp, rn, rv), rf, rw)) (w := (rc, nms, nso, nnu)) (of_decide_eq_true h4) (fun q => h27 q.2)]) (by rw [tn_ag (s := ((rk, rp, rn, rv), rf, rw)) (w := (rc, nms, nso, nnu)) (of_decide_eq_true h4) (fun q => h27 q.2)]; rfl)) (by omega) (by omega)
  · refine v_aload_n X dX4_tellsName_7 rfl 0 rfl ?_
    refine v_iconst X dX4_tellsName_8 (v := nI 1) (by decide) ?_
    refine v_wrI1 X (rn_V X k_X4_fails ml_X4_99 dX4_tellsName_9 (c_X4_fails l E hr ra fd re rk rp rn rv rh rc rf rw 1 ) rfl 0 rfl rfl (by decide) (by decide) (by omega) (by omega) (Nat.le_of_ble_eq_true rfl)) [0] rfl rfl (ws' := [ob hr 4 [.ref (ra 0), .int (nI fd), .ref (ra 2), .ref (ra 3), .int (nI re), .int (nI rk), .int (nI rp), .int (nI rn), .long rv, .int (nI (rh).toNat), .ref (ra 10), .ref (ra 11), .ref (ra 12), .int (nI rc), .int (nI 1), .int (nI rp)], aB E (ra 0) 900 tp, aL E (ra 2) 6 kwd, aL E (ra 10) 18 nms, aN E (ra 11) 18 nso, aN E (ra 12) 18 nnu]) rfl rfl ?_
    exact v_zret X Y dX4_tellsName_12 (by decide) (wrI_of (by rw [tn_no (s := ((rk, rp, rn, rv), rf, rw)) (w := (rc, nms, nso, nnu)) (of_decide_eq_false h4)]) (by rw [tn_no (s := ((rk, rp, rn, rv), rf, rw)) (w := (rc, nms, nso, nnu)) (of_decide_eq_false h4)]; rfl)) (by omega) (by omega)
set_option maxRecDepth 100000 in
set_option maxHeartbeats 4000000 in
theorem c_X4_passName (l : Launch) (E : Et) (hr : Nat) (ra : Nat → Nat) (fd : Nat) (re : Nat) (rk : Nat) (rp : Nat) (rn : Nat) (rv : Int64) (rh : Bool) (rc : Nat) (rf : Nat) (rw : Int32) (tp : Nat → Int32) (kwd : Nat → Int64) (nms : Nat → Int64) (nso : Nat → Nat) (nnu : Nat → Nat) (so : Nat) (us : Nat) (hre : re ≤ 900) (hrn : rn ≤ re) (hrk : rk ≤ 5) (hrc : rc ≤ 18) (hso : so ≤ 5) (hns : ∀ i, i < rc → nso i ≤ 5) (hnn : ∀ i, i < rc → nnu i < 8) (hus : us < 256) : Ct l E yX4_passName cX4_passName 4 (some .int) 4 0 0 [.ref hr, .int (nI so), .int (nI us)] [ob hr 4 [.ref (ra 0), .int (nI fd), .ref (ra 2), .ref (ra 3), .int (nI re), .int (nI rk), .int (nI rp), .int (nI rn), .long rv, .int (nI (rh).toNat), .ref (ra 10), .ref (ra 11), .ref (ra 12), .int (nI rc), .int (nI rf), .int rw], aB E (ra 0) 900 tp, aL E (ra 2) 6 kwd, aL E (ra 10) 18 nms, aN E (ra 11) 18 nso, aN E (ra 12) 18 nnu] (wrI [ob hr 4 [.ref (ra 0), .int (nI fd), .ref (ra 2), .ref (ra 3), .int (nI re), .int (nI ((pnF tp re kwd so us ((rk, rp, rn, rv), rf, rw) (rc, nms, nso, nnu)).2.1.1)), .int (nI ((pnF tp re kwd so us ((rk, rp, rn, rv), rf, rw) (rc, nms, nso, nnu)).2.1.2.1)), .int (nI ((pnF tp re kwd so us ((rk, rp, rn, rv), rf, rw) (rc, nms, nso, nnu)).2.1.2.2.1)), .long ((pnF tp re kwd so us ((rk, rp, rn, rv), rf, rw) (rc, nms, nso, nnu)).2.1.2.2.2), .int (nI (rh).toNat), .ref (ra 10), .ref (ra 11), .ref (ra 12), .int (nI rc), .int (nI ((pnF tp re kwd so us ((rk, rp, rn, rv), rf, rw) (rc, nms, nso, nnu)).2.2.1)), .int ((pnF tp re kwd so us ((rk, rp, rn, rv), rf, rw) (rc, nms, nso, nnu)).2.2.2)], aB E (ra 0) 900 tp, aL E (ra 2) 6 kwd, aL E (ra 10) 18 nms, aN E (ra 11) 18 nso, aN E (ra 12) 18 nnu] ((pnF tp re kwd so us ((rk, rp, rn, rv), rf, rw) (rc, nms, nso, nnu)).1)) := by
  refine Ct.intro (by decide +kernel) (Nat.le_of_ble_eq_true rfl) (lv := [(0, .ref hr), (1, .int (nI so)), (2, .int (nI us))]) rfl ?_
  intro Z X Y
  refine v_aload_n X dX4_passName_0 rfl 0 rfl ?_
  refine v_roI1 X (rn_V X k_X4_isName ml_X4_137 dX4_passName_1 (c_X4_isName l E hr ra fd re rk rp rn rv rh rc rf rw kwd (by first | assumption | omega)) rfl 0 rfl rfl (by decide) (by decide) (by omega) (by omega) (Nat.le_of_ble_eq_true rfl)) [0, 2] rfl rfl ?_
  refine v_ifB_ne X dX4_passName_4 (tgt := 15) (by decide) (fun h4 => ?_) (fun h4 => ?_)
  · refine v_aload_n X dX4_passName_15 rfl 0 rfl ?_
    refine v_roI1 X (rn_V X k_X4_nameHere ml_X4_140 dX4_passName_16 (c_X4_nameHere l E hr ra fd re rk rp rn rv rh rc rf rw nms (by first | assumption | omega)) rfl 0 rfl rfl (by decide) (by decide) (by omega) (by omega) (Nat.le_of_ble_eq_true rfl)) [0, 3] rfl rfl ?_
    refine v_istore_n X dX4_passName_19 rfl (by decide) (lv' := [(3, .int (optJ (fst_ (fun i => decide (nms i = rv)) rc 0))), (0, .ref hr), (1, .int (nI so)), (2, .int (nI us))]) rfl ?_
    rcases hX : fst_ (fun i => decide (nms i = rv)) rc 0 with _ | q
    · refine V.cast (lv' := [(3, .int (-1)), (0, .ref hr), (1, .int (nI so)), (2, .int (nI us))]) rfl rfl rfl ?_
      refine v_iload_n X dX4_passName_20 rfl 0 rfl ?_
      refine v_if_lt X dX4_passName_21 (tgt := 40) (by decide) (fun h21 => ?_) (fun h21 => ?_)
      · refine v_aload_n X dX4_passName_40 rfl 1 rfl ?_
        refine v_iconst X dX4_passName_41 (v := nI 2) (by decide) ?_
        refine v_wrI1 X (rn_V X k_X4_fails ml_X4_99 dX4_passName_42 (c_X4_fails l E hr ra fd re rk rp rn rv rh rc rf rw 2 ) rfl 0 rfl rfl (by decide) (by decide) (by omega) (by omega) (Nat.le_of_ble_eq_true rfl)) [0] rfl rfl (ws' := [ob hr 4 [.ref (ra 0), .int (nI fd), .ref (ra 2), .ref (ra 3), .int (nI re), .int (nI rk), .int (nI rp), .int (nI rn), .long rv, .int (nI (rh).toNat), .ref (ra 10), .ref (ra 11), .ref (ra 12), .int (nI rc), .int (nI 2), .int (nI rp)], aB E (ra 0) 900 tp, aL E (ra 2) 6 kwd, aL E (ra 10) 18 nms, aN E (ra 11) 18 nso, aN E (ra 12) 18 nnu]) rfl rfl ?_
        refine v_pop X dX4_passName_45 rfl ?_
        refine v_iconst X dX4_passName_46 (v := (-1)) (by decide) ?_
        exact v_iret X Y dX4_passName_47 (wrI_of (by rw [pn_un (s := ((rk, rp, rn, rv), rf, rw)) (w := (rc, nms, nso, nnu)) (of_decide_eq_true h4) hX]) (by rw [pn_un (s := ((rk, rp, rn, rv), rf, rw)) (w := (rc, nms, nso, nnu)) (of_decide_eq_true h4) hX])) (by omega) (by omega)
      · exact absurd h21 (by decide)
    · have hqr : q < rc := by have := (fst_lt _ _ _ hX).1; omega
      have hq18 : q < 18 := by omega
      refine V.cast (lv' := [(3, .int (nI q)), (0, .ref hr), (1, .int (nI so)), (2, .int (nI us))]) rfl rfl rfl ?_
      refine v_iload_n X dX4_passName_20 rfl 0 rfl ?_
      refine v_if_lt X dX4_passName_21 (tgt := 40) (by decide) (fun h21 => ?_) (fun h21 => ?_)
      · exact absurd h21 (nI_pos (by omega))
      · refine v_iload_n X dX4_passName_24 rfl 0 rfl ?_
        refine v_bipush X dX4_passName_25 (v := nI 18) (by decide) ?_
        refine v_icmpN_ge X dX4_passName_27 (tgt := 40) (by decide) (by omega) (by decide) (fun h27 => ?_) (fun h27 => ?_)
        · exfalso; omega
        · refine v_aload_n X dX4_passName_30 rfl 1 rfl ?_
          refine v_get X kcX4 fl_X4_19 dX4_passName_31 0 rfl rfl ?_
          refine v_iload_n X dX4_passName_34 rfl 0 rfl ?_
          refine v_iald X dX4_passName_35 4 rfl (by omega) (by decide) ?_
          refine v_iload_n X dX4_passName_36 rfl 2 rfl ?_
          refine v_icmpN_eq X dX4_passName_37 (tgt := 48) (by decide) (Nat.lt_of_le_of_lt (hns q hqr) (by decide)) (by omega) (fun h37 => ?_) (fun h37 => ?_)
          · refine v_iload_n X dX4_passName_48 rfl 3 rfl ?_
            refine v_i2l X dX4_passName_49 (v := lN us) (nI_l (by omega)) ?_
            refine v_aload_n X dX4_passName_50 rfl 1 rfl ?_
            refine v_get X kcX4 fl_X4_23 dX4_passName_51 0 rfl rfl ?_
            refine v_iload_n X dX4_passName_54 rfl 0 rfl ?_
            refine v_iald X dX4_passName_55 5 rfl (by omega) (by decide) ?_
            refine v_roI1 X (rn_SN X k_X6_isIn ml_X4_143 dX4_passName_56 (c_X6_isIn l E us (nnu q) (Nat.lt_trans hus (by decide)) (Nat.lt_trans (hnn q hqr) (by decide))) rfl (by decide) (by decide) (by omega) (by omega) (Nat.le_of_ble_eq_true rfl)) [] rfl rfl ?_
            refine v_ifB_eq X dX4_passName_59 (tgt := 70) (by decide) (fun h59 => ?_) (fun h59 => ?_)
            · refine v_aload_n X dX4_passName_70 rfl 1 rfl ?_
              refine v_wrV1 X (rn_V X k_X4_advance ml_X4_83 dX4_passName_71 (c_X4_advance l E hr ra fd re rk rp rn rv rh rc rf rw tp (by first | assumption | omega) (by first | assumption | omega)) rfl 0 rfl rfl (by decide) (by decide) (by omega) (by omega) (Nat.le_of_ble_eq_true rfl)) [0, 1] rfl rfl (ws' := [ob hr 4 [.ref (ra 0), .int (nI fd), .ref (ra 2), .ref (ra 3), .int (nI re), .int (nI ((advF tp re rn rv).1)), .int (nI ((advF tp re rn rv).2.1)), .int (nI ((advF tp re rn rv).2.2.1)), .long ((advF tp re rn rv).2.2.2), .int (nI (rh).toNat), .ref (ra 10), .ref (ra 11), .ref (ra 12), .int (nI rc), .int (nI rf), .int rw], aB E (ra 0) 900 tp, aL E (ra 2) 6 kwd, aL E (ra 10) 18 nms, aN E (ra 11) 18 nso, aN E (ra 12) 18 nnu]) rfl rfl ?_
              refine v_aload_n X dX4_passName_74 rfl 1 rfl ?_
              refine v_get X kcX4 fl_X4_23 dX4_passName_75 0 rfl rfl ?_
              refine v_iload_n X dX4_passName_78 rfl 0 rfl ?_
              refine v_iald X dX4_passName_79 5 rfl (by omega) (by decide) ?_
              exact v_iret X Y dX4_passName_80 (wrI_of (by rw [pn_ok (s := ((rk, rp, rn, rv), rf, rw)) (w := (rc, nms, nso, nnu)) (of_decide_eq_true h4) hX h37 h59]) (by rw [pn_ok (s := ((rk, rp, rn, rv), rf, rw)) (w := (rc, nms, nso, nnu)) (of_decide_eq_true h4) hX h37 h59])) (by omega) (by omega)
            · refine v_aload_n X dX4_passName_62 rfl 1 rfl ?_
              refine v_iconst X dX4_passName_63 (v := nI 3) (by decide) ?_
              refine v_wrI1 X (rn_V X k_X4_fails ml_X4_99 dX4_passName_64 (c_X4_fails l E hr ra fd re rk rp rn rv rh rc rf rw 3 ) rfl 0 rfl rfl (by decide) (by decide) (by omega) (by omega) (Nat.le_of_ble_eq_true rfl)) [0] rfl rfl (ws' := [ob hr 4 [.ref (ra 0), .int (nI fd), .ref (ra 2), .ref (ra 3), .int (nI re), .int (nI rk), .int (nI rp), .int (nI rn), .long rv, .int (nI (rh).toNat), .ref (ra 10), .ref (ra 11), .ref (ra 12), .int (nI rc), .int (nI 3), .int (nI rp)], aB E (ra 0) 900 tp, aL E (ra 2) 6 kwd, aL E (ra 10) 18 nms, aN E (ra 11) 18 nso, aN E (ra 12) 18 nnu]) rfl rfl ?_
              refine v_pop X dX4_passName_67 rfl ?_
              refine v_iconst X dX4_passName_68 (v := (-1)) (by decide) ?_
              exact v_iret X Y dX4_passName_69 (wrI_of (by rw [pn_ag (s := ((rk, rp, rn, rv), rf, rw)) (w := (rc, nms, nso, nnu)) (of_decide_eq_true h4) hX h37 h59]) (by rw [pn_ag (s := ((rk, rp, rn, rv), rf, rw)) (w := (rc, nms, nso, nnu)) (of_decide_eq_true h4) hX h37 h59])) (by omega) (by omega)
          · refine v_aload_n X dX4_passName_40 rfl 1 rfl ?_
            refine v_iconst X dX4_passName_41 (v := nI 2) (by decide) ?_
            refine v_wrI1 X (rn_V X k_X4_fails ml_X4_99 dX4_passName_42 (c_X4_fails l E hr ra fd re rk rp rn rv rh rc rf rw 2 ) rfl 0 rfl rfl (by decide) (by decide) (by omega) (by omega) (Nat.le_of_ble_eq_true rfl)) [0] rfl rfl (ws' := [ob hr 4 [.ref (ra 0), .int (nI fd), .ref (ra 2), .ref (ra 3), .int (nI re), .int (nI rk), .int (nI rp), .int (nI rn), .long rv, .int (nI (rh).toNat), .ref (ra 10), .ref (ra 11), .ref (ra 12), .int (nI rc), .int (nI 2), .int (nI rp)], aB E (ra 0) 900 tp, aL E (ra 2) 6 kwd, aL E (ra 10) 18 nms, aN E (ra 11) 18 nso, aN E (ra 12) 18 nnu]) rfl rfl ?_
            refine v_pop X dX4_passName_45 rfl ?_
            refine v_iconst X dX4_passName_46 (v := (-1)) (by decide) ?_
            exact v_iret X Y dX4_passName_47 (wrI_of (by rw [pn_so (s := ((rk, rp, rn, rv), rf, rw)) (w := (rc, nms, nso, nnu)) (of_decide_eq_true h4) hX h37]) (by rw [pn_so (s := ((rk, rp, rn, rv), rf, rw)) (w := (rc, nms, nso, nnu)) (of_decide_eq_true h4) hX h37])) (by omega) (by omega)
  · refine v_aload_n X dX4_passName_7 rfl 0 rfl ?_
    refine v_iconst X dX4_passName_8 (v := nI 1) (by decide) ?_
    refine v_wrI1 X (rn_V X k_X4_fails ml_X4_99 dX4_passName_9 (c_X4_fails l E hr ra fd re rk rp rn rv rh rc rf rw 1 ) rfl 0 rfl rfl (by decide) (by decide) (by omega) (by omega) (Nat.le_of_ble_eq_true rfl)) [0] rfl rfl (ws' := [ob hr 4 [.ref (ra 0), .int (nI fd), .ref (ra 2), .ref (ra 3), .int (nI re), .int (nI rk), .int (nI rp), .int (nI rn), .long rv, .int (nI (rh).toNat), .ref (ra 10), .ref (ra 11), .ref (ra 12), .int (nI rc), .int (nI 1), .int (nI rp)], aB E (ra 0) 900 tp, aL E (ra 2) 6 kwd, aL E (ra 10) 18 nms, aN E (ra 11) 18 nso, aN E (ra 12) 18 nnu]) rfl rfl ?_
    refine v_pop X dX4_passName_12 rfl ?_
    refine v_iconst X dX4_passName_13 (v := (-1)) (by decide) ?_
    exact v_iret X Y dX4_passName_14 (wrI_of (by rw [pn_no (s := ((rk, rp, rn, rv), rf, rw)) (w := (rc, nms, nso, nnu)) (of_decide_eq_false h4)]) (by rw [pn_no (s := ((rk, rp, rn, rv), rf, rw)) (w := (rc, nms, nso, nnu)) (of_decide_eq_false h4)])) (by omega) (by omega)
