set_option maxRecDepth 100000 in
set_option maxHeartbeats 4000000 in
theorem c_X4_fails (l : Launch) (E : Et) (hr : Nat) (ra : Nat → Nat) (fd : Nat) (re : Nat) (rk : Nat) (rp : Nat) (rn : Nat) (rv : Int64) (rh : Bool) (rc : Nat) (rf : Nat) (rw : Int32) (k : Nat)  : Ct l E yX4_fails cX4_fails 2 (some .boolean) 0 0 0 [.ref hr, .int (nI k)] [ob hr 4 [.ref (ra 0), .int (nI fd), .ref (ra 2), .ref (ra 3), .int (nI re), .int (nI rk), .int (nI rp), .int (nI rn), .long rv, .int (nI (rh).toNat), .ref (ra 10), .ref (ra 11), .ref (ra 12), .int (nI rc), .int (nI rf), .int rw]] (wrI [ob hr 4 [.ref (ra 0), .int (nI fd), .ref (ra 2), .ref (ra 3), .int (nI re), .int (nI rk), .int (nI rp), .int (nI rn), .long rv, .int (nI (rh).toNat), .ref (ra 10), .ref (ra 11), .ref (ra 12), .int (nI rc), .int (nI k), .int (nI rp)]] (nI 0)) := by
  refine Ct.intro (by decide +kernel) (Nat.le_of_ble_eq_true rfl) (lv := [(0, .ref hr), (1, .int (nI k))]) rfl ?_
  intro Z X Y
  refine v_aload_n X dX4_fails_0 rfl 0 rfl ?_
  refine v_iload_n X dX4_fails_1 rfl 1 rfl ?_
  refine v_put X kcX4 fl_X4_77 dX4_fails_2 0 rfl (ws' := [ob hr 4 [.ref (ra 0), .int (nI fd), .ref (ra 2), .ref (ra 3), .int (nI re), .int (nI rk), .int (nI rp), .int (nI rn), .long rv, .int (nI (rh).toNat), .ref (ra 10), .ref (ra 11), .ref (ra 12), .int (nI rc), .int (nI k), .int rw]]) rfl rfl ?_
  refine v_aload_n X dX4_fails_5 rfl 0 rfl ?_
  refine v_aload_n X dX4_fails_6 rfl 0 rfl ?_
  refine v_get X kcX4 fl_X4_107 dX4_fails_7 0 rfl rfl ?_
  refine v_put X kcX4 fl_X4_80 dX4_fails_10 0 rfl (ws' := [ob hr 4 [.ref (ra 0), .int (nI fd), .ref (ra 2), .ref (ra 3), .int (nI re), .int (nI rk), .int (nI rp), .int (nI rn), .long rv, .int (nI (rh).toNat), .ref (ra 10), .ref (ra 11), .ref (ra 12), .int (nI rc), .int (nI k), .int (nI rp)]]) rfl rfl ?_
  refine v_iconst X dX4_fails_13 (v := nI 0) (by decide) ?_
  exact v_zret X Y dX4_fails_14 (by decide) (wrI_of rfl rfl) (by omega) (by omega)
set_option maxRecDepth 100000 in
set_option maxHeartbeats 4000000 in
theorem c_X4_takeRun (l : Launch) (E : Et) (hr : Nat) (ra : Nat → Nat) (fd : Nat) (re : Nat) (rk : Nat) (rp : Nat) (rn : Nat) (rv : Int64) (rh : Bool) (rc : Nat) (rf : Nat) (rw : Int32) (tp : Nat → Int32) (lo : Int32) (hi : Int32) (bs : Int32) (ol : Int32) (hre : re ≤ 900) (hrn : rn ≤ re) (hpp : rp ≤ rn) : Ct l E yX4_takeRun cX4_takeRun 5 (some .int) 1 0 0 [.ref hr, .int lo, .int hi, .int bs, .int ol] [ob hr 4 [.ref (ra 0), .int (nI fd), .ref (ra 2), .ref (ra 3), .int (nI re), .int (nI rk), .int (nI rp), .int (nI rn), .long rv, .int (nI (rh).toNat), .ref (ra 10), .ref (ra 11), .ref (ra 12), .int (nI rc), .int (nI rf), .int rw], aB E (ra 0) 900 tp] (wrI [ob hr 4 [.ref (ra 0), .int (nI fd), .ref (ra 2), .ref (ra 3), .int (nI re), .int (nI rk), .int (nI rp), .int (nI ((runF tp re lo hi bs ol (re - rn) (rn, lN 0)).1)), .long ((runF tp re lo hi bs ol (re - rn) (rn, lN 0)).2), .int (nI (rh).toNat), .ref (ra 10), .ref (ra 11), .ref (ra 12), .int (nI rc), .int (nI rf), .int rw], aB E (ra 0) 900 tp] (nI ((runF tp re lo hi bs ol (re - rn) (rn, lN 0)).1 - rp))) := by
  refine Ct.intro (by decide +kernel) (Nat.le_of_ble_eq_true rfl) (lv := [(0, .ref hr), (1, .int lo), (2, .int hi), (3, .int bs), (4, .int ol)]) rfl ?_
  intro Z X Y
  refine v_aload_n X dX4_takeRun_0 rfl 0 rfl ?_
  refine v_lconst X dX4_takeRun_1 (v := lN 0) (by decide) ?_
  refine v_put X kcX4 fl_X4_114 dX4_takeRun_2 0 rfl (ws' := [ob hr 4 [.ref (ra 0), .int (nI fd), .ref (ra 2), .ref (ra 3), .int (nI re), .int (nI rk), .int (nI rp), .int (nI rn), .long (lN 0), .int (nI (rh).toNat), .ref (ra 10), .ref (ra 11), .ref (ra 12), .int (nI rc), .int (nI rf), .int rw], aB E (ra 0) 900 tp]) rfl rfl ?_
  have L5 : ∀ (j5 : Nat) (vn : Nat) (vv : Int64), (vn ≤ re ∧ rn ≤ vn ∧ runF tp re lo hi bs ol (re - rn) (rn, lN 0) = runF tp re lo hi bs ol (re - vn) (vn, vv)) → re - vn < j5 → V E Z 5 [(0, .ref hr), (1, .int lo), (2, .int hi), (3, .int bs), (4, .int ol)] [] [ob hr 4 [.ref (ra 0), .int (nI fd), .ref (ra 2), .ref (ra 3), .int (nI re), .int (nI rk), .int (nI rp), .int (nI vn), .long vv, .int (nI (rh).toNat), .ref (ra 10), .ref (ra 11), .ref (ra 12), .int (nI rc), .int (nI rf), .int rw], aB E (ra 0) 900 tp] 0 0 := by
    intro j5
    induction j5 with
    | zero => intro vn vv hI hM; exact absurd hM (Nat.not_lt_zero _)
    | succ j5 ih5 =>
      intro vn vv hI5 hM5
      obtain ⟨hc, hd, hq⟩ := id hI5
      refine v_aload_n X dX4_takeRun_5 rfl 0 rfl ?_
      refine v_get X kcX4 fl_X4_67 dX4_takeRun_6 0 rfl rfl ?_
      refine v_aload_n X dX4_takeRun_9 rfl 0 rfl ?_
      refine v_get X kcX4 fl_X4_64 dX4_takeRun_10 0 rfl rfl ?_
      refine v_icmpN_ge X dX4_takeRun_13 (tgt := 82) (by decide) (by omega) (by omega) (fun h13 => ?_) (fun h13 => ?_)
      · refine v_aload_n X dX4_takeRun_82 rfl 0 rfl ?_
        refine v_get X kcX4 fl_X4_67 dX4_takeRun_83 0 rfl rfl ?_
        refine v_aload_n X dX4_takeRun_86 rfl 0 rfl ?_
        refine v_get X kcX4 fl_X4_107 dX4_takeRun_87 0 rfl rfl ?_
        refine v_isub X dX4_takeRun_90 ?_
        refine v_eqi (x' := nI (vn - rp)) (pk_sub (by omega)) ?_
        exact v_iret X Y dX4_takeRun_91 (wrI_of (by rw [hq, run_end h13]) (by rw [hq, run_end h13])) (by omega) (by omega)
      · refine v_aload_n X dX4_takeRun_16 rfl 0 rfl ?_
        refine v_get X kcX4 fl_X4_9 dX4_takeRun_17 0 rfl rfl ?_
        refine v_aload_n X dX4_takeRun_20 rfl 0 rfl ?_
        refine v_get X kcX4 fl_X4_67 dX4_takeRun_21 0 rfl rfl ?_
        refine v_bald X dX4_takeRun_24 1 rfl (by omega) (by decide) ?_
        refine v_iload_n X dX4_takeRun_25 rfl 1 rfl ?_
        refine v_icmp_lt X dX4_takeRun_26 (tgt := 82) (by decide) (fun h26 => ?_) (fun h26 => ?_)
        · refine v_aload_n X dX4_takeRun_82 rfl 0 rfl ?_
          refine v_get X kcX4 fl_X4_67 dX4_takeRun_83 0 rfl rfl ?_
          refine v_aload_n X dX4_takeRun_86 rfl 0 rfl ?_
          refine v_get X kcX4 fl_X4_107 dX4_takeRun_87 0 rfl rfl ?_
          refine v_isub X dX4_takeRun_90 ?_
          refine v_eqi (x' := nI (vn - rp)) (pk_sub (by omega)) ?_
          exact v_iret X Y dX4_takeRun_91 (wrI_of (by rw [hq, run_no (by omega) (Or.inl h26)]) (by rw [hq, run_no (by omega) (Or.inl h26)])) (by omega) (by omega)
        · refine v_aload_n X dX4_takeRun_29 rfl 0 rfl ?_
          refine v_get X kcX4 fl_X4_9 dX4_takeRun_30 0 rfl rfl ?_
          refine v_aload_n X dX4_takeRun_33 rfl 0 rfl ?_
          refine v_get X kcX4 fl_X4_67 dX4_takeRun_34 0 rfl rfl ?_
          refine v_bald X dX4_takeRun_37 1 rfl (by omega) (by decide) ?_
          refine v_iload_n X dX4_takeRun_38 rfl 2 rfl ?_
          refine v_icmp_gt X dX4_takeRun_39 (tgt := 82) (by decide) (fun h39 => ?_) (fun h39 => ?_)
          · refine v_aload_n X dX4_takeRun_82 rfl 0 rfl ?_
            refine v_get X kcX4 fl_X4_67 dX4_takeRun_83 0 rfl rfl ?_
            refine v_aload_n X dX4_takeRun_86 rfl 0 rfl ?_
            refine v_get X kcX4 fl_X4_107 dX4_takeRun_87 0 rfl rfl ?_
            refine v_isub X dX4_takeRun_90 ?_
            refine v_eqi (x' := nI (vn - rp)) (pk_sub (by omega)) ?_
            exact v_iret X Y dX4_takeRun_91 (wrI_of (by rw [hq, run_no (by omega) (Or.inr h39)]) (by rw [hq, run_no (by omega) (Or.inr h39)])) (by omega) (by omega)
          · refine v_aload_n X dX4_takeRun_42 rfl 0 rfl ?_
            refine v_aload_n X dX4_takeRun_43 rfl 0 rfl ?_
            refine v_get X kcX4 fl_X4_114 dX4_takeRun_44 0 rfl rfl ?_
            refine v_iload_n X dX4_takeRun_47 rfl 3 rfl ?_
            refine v_i2l X dX4_takeRun_48 rfl ?_
            refine v_lmul X dX4_takeRun_49 ?_
            refine v_aload_n X dX4_takeRun_50 rfl 0 rfl ?_
            refine v_get X kcX4 fl_X4_9 dX4_takeRun_51 0 rfl rfl ?_
            refine v_aload_n X dX4_takeRun_54 rfl 0 rfl ?_
            refine v_get X kcX4 fl_X4_67 dX4_takeRun_55 0 rfl rfl ?_
            refine v_bald X dX4_takeRun_58 1 rfl (by omega) (by decide) ?_
            refine v_iload_n X dX4_takeRun_59 rfl 1 rfl ?_
            refine v_isub X dX4_takeRun_60 ?_
            refine v_iload X dX4_takeRun_61 4 rfl ?_
            refine v_iadd X dX4_takeRun_63 ?_
            refine v_i2l X dX4_takeRun_64 rfl ?_
            refine v_ladd X dX4_takeRun_65 ?_
            refine v_put X kcX4 fl_X4_114 dX4_takeRun_66 0 rfl (ws' := [ob hr 4 [.ref (ra 0), .int (nI fd), .ref (ra 2), .ref (ra 3), .int (nI re), .int (nI rk), .int (nI rp), .int (nI vn), .long ((vv * ((bs).toInt64)) + ((((tp vn) - lo) + ol).toInt64)), .int (nI (rh).toNat), .ref (ra 10), .ref (ra 11), .ref (ra 12), .int (nI rc), .int (nI rf), .int rw], aB E (ra 0) 900 tp]) rfl rfl ?_
            refine v_aload_n X dX4_takeRun_69 rfl 0 rfl ?_
            refine v_dup X dX4_takeRun_70 rfl ?_
            refine v_get X kcX4 fl_X4_67 dX4_takeRun_71 0 rfl rfl ?_
            refine v_iconst X dX4_takeRun_74 (v := nI 1) (by decide) ?_
            refine v_iadd X dX4_takeRun_75 ?_
            refine v_eqi (x' := nI (vn + 1)) (nI_add _ _) ?_
            refine v_put X kcX4 fl_X4_67 dX4_takeRun_76 0 rfl (ws' := [ob hr 4 [.ref (ra 0), .int (nI fd), .ref (ra 2), .ref (ra 3), .int (nI re), .int (nI rk), .int (nI rp), .int (nI (vn + 1)), .long ((vv * ((bs).toInt64)) + ((((tp vn) - lo) + ol).toInt64)), .int (nI (rh).toNat), .ref (ra 10), .ref (ra 11), .ref (ra 12), .int (nI rc), .int (nI rf), .int rw], aB E (ra 0) 900 tp]) rfl rfl ?_
            refine v_goto X dX4_takeRun_79 (tgt := 5) (by decide) ?_
            refine V.lvs [0, 1, 2, 3, 4] rfl ?_
            exact ih5 (vn + 1) ((vv * ((bs).toInt64)) + ((((tp vn) - lo) + ol).toInt64)) (⟨by omega, by omega, hq.trans (run_go (by omega) h26 h39)⟩) (by omega)
  refine V.lvs [0, 1, 2, 3, 4] rfl ?_
  exact L5 _ rn (lN 0) (⟨hrn, Nat.le_refl _, rfl⟩) (Nat.lt_succ_self _)
set_option maxRecDepth 100000 in
set_option maxHeartbeats 4000000 in
theorem c_X4_advance (l : Launch) (E : Et) (hr : Nat) (ra : Nat → Nat) (fd : Nat) (re : Nat) (rk : Nat) (rp : Nat) (rn : Nat) (rv : Int64) (rh : Bool) (rc : Nat) (rf : Nat) (rw : Int32) (tp : Nat → Int32) (hre : re ≤ 900) (hrn : rn ≤ re) : Ct l E yX4_advance cX4_advance 2 none 2 0 0 [.ref hr] [ob hr 4 [.ref (ra 0), .int (nI fd), .ref (ra 2), .ref (ra 3), .int (nI re), .int (nI rk), .int (nI rp), .int (nI rn), .long rv, .int (nI (rh).toNat), .ref (ra 10), .ref (ra 11), .ref (ra 12), .int (nI rc), .int (nI rf), .int rw], aB E (ra 0) 900 tp] (wrV [ob hr 4 [.ref (ra 0), .int (nI fd), .ref (ra 2), .ref (ra 3), .int (nI re), .int (nI ((advF tp re rn rv).1)), .int (nI ((advF tp re rn rv).2.1)), .int (nI ((advF tp re rn rv).2.2.1)), .long ((advF tp re rn rv).2.2.2), .int (nI (rh).toNat), .ref (ra 10), .ref (ra 11), .ref (ra 12), .int (nI rc), .int (nI rf), .int rw], aB E (ra 0) 900 tp]) := by
  refine Ct.intro (by decide +kernel) (Nat.le_of_ble_eq_true rfl) (lv := [(0, .ref hr)]) rfl ?_
  intro Z X Y
  have L0 : ∀ (j0 : Nat) (vn : Nat), (vn ≤ re ∧ spcF tp re (re - rn) rn = spcF tp re (re - vn) vn) → re - vn < j0 → V E Z 0 [(0, .ref hr)] [] [ob hr 4 [.ref (ra 0), .int (nI fd), .ref (ra 2), .ref (ra 3), .int (nI re), .int (nI rk), .int (nI rp), .int (nI vn), .long rv, .int (nI (rh).toNat), .ref (ra 10), .ref (ra 11), .ref (ra 12), .int (nI rc), .int (nI rf), .int rw], aB E (ra 0) 900 tp] 0 0 := by
    intro j0
    induction j0 with
    | zero => intro vn hI hM; exact absurd hM (Nat.not_lt_zero _)
    | succ j0 ih0 =>
      intro vn hI0 hM0
      obtain ⟨hc, hq⟩ := id hI0
      refine v_aload_n X dX4_advance_0 rfl 0 rfl ?_
      refine v_get X kcX4 fl_X4_67 dX4_advance_1 0 rfl rfl ?_
      refine v_aload_n X dX4_advance_4 rfl 0 rfl ?_
      refine v_get X kcX4 fl_X4_64 dX4_advance_5 0 rfl rfl ?_
      refine v_icmpN_ge X dX4_advance_8 (tgt := 38) (by decide) (by omega) (by omega) (fun h8 => ?_) (fun h8 => ?_)
      · refine v_aload_n X dX4_advance_38 rfl 0 rfl ?_
        refine v_aload_n X dX4_advance_39 rfl 0 rfl ?_
        refine v_get X kcX4 fl_X4_67 dX4_advance_40 0 rfl rfl ?_
        refine v_put X kcX4 fl_X4_107 dX4_advance_43 0 rfl (ws' := [ob hr 4 [.ref (ra 0), .int (nI fd), .ref (ra 2), .ref (ra 3), .int (nI re), .int (nI rk), .int (nI vn), .int (nI vn), .long rv, .int (nI (rh).toNat), .ref (ra 10), .ref (ra 11), .ref (ra 12), .int (nI rc), .int (nI rf), .int rw], aB E (ra 0) 900 tp]) rfl rfl ?_
        refine v_aload_n X dX4_advance_46 rfl 0 rfl ?_
        refine v_get X kcX4 fl_X4_107 dX4_advance_47 0 rfl rfl ?_
        refine v_aload_n X dX4_advance_50 rfl 0 rfl ?_
        refine v_get X kcX4 fl_X4_64 dX4_advance_51 0 rfl rfl ?_
        refine v_icmpN_lt X dX4_advance_54 (tgt := 63) (by decide) (by omega) (by omega) (fun h54 => ?_) (fun h54 => ?_)
        · refine v_aload_n X dX4_advance_63 rfl 0 rfl ?_
          refine v_get X kcX4 fl_X4_9 dX4_advance_64 0 rfl rfl ?_
          refine v_aload_n X dX4_advance_67 rfl 0 rfl ?_
          refine v_get X kcX4 fl_X4_107 dX4_advance_68 0 rfl rfl ?_
          refine v_bald X dX4_advance_71 1 rfl (by omega) (by decide) ?_
          refine v_istore_n X dX4_advance_72 rfl (by decide) (lv' := [(1, .int (tp vn)), (0, .ref hr)]) rfl ?_
          refine v_iload_n X dX4_advance_73 rfl 0 rfl ?_
          refine v_bipush X dX4_advance_74 (v := nI 97) (by decide) ?_
          refine v_icmp_lt X dX4_advance_76 (tgt := 113) (by decide) (fun h76 => ?_) (fun h76 => ?_)
          · refine v_iload_n X dX4_advance_113 rfl 0 rfl ?_
            refine v_bipush X dX4_advance_114 (v := nI 48) (by decide) ?_
            refine v_icmp_lt X dX4_advance_116 (tgt := 152) (by decide) (fun h116 => ?_) (fun h116 => ?_)
            · refine v_aload_n X dX4_advance_152 rfl 1 rfl ?_
              refine v_iload_n X dX4_advance_153 rfl 0 rfl ?_
              refine v_bipush X dX4_advance_154 (v := nI 59) (by decide) ?_
              refine v_icmp_ne X dX4_advance_156 (tgt := 163) (by decide) (fun h156 => ?_) (fun h156 => ?_)
              · refine v_iload_n X dX4_advance_163 rfl 0 rfl ?_
                refine v_bipush X dX4_advance_164 (v := nI 44) (by decide) ?_
                refine v_icmp_ne X dX4_advance_166 (tgt := 173) (by decide) (fun h166 => ?_) (fun h166 => ?_)
                · refine v_iconst X dX4_advance_173 (v := nI 5) (by decide) ?_
                  refine v_put X kcX4 fl_X4_90 dX4_advance_174 0 rfl (ws' := [ob hr 4 [.ref (ra 0), .int (nI fd), .ref (ra 2), .ref (ra 3), .int (nI re), .int (nI 5), .int (nI vn), .int (nI vn), .long rv, .int (nI (rh).toNat), .ref (ra 10), .ref (ra 11), .ref (ra 12), .int (nI rc), .int (nI rf), .int rw], aB E (ra 0) 900 tp]) rfl rfl ?_
                  refine v_aload_n X dX4_advance_177 rfl 1 rfl ?_
                  refine v_dup X dX4_advance_178 rfl ?_
                  refine v_get X kcX4 fl_X4_67 dX4_advance_179 0 rfl rfl ?_
                  refine v_iconst X dX4_advance_182 (v := nI 1) (by decide) ?_
                  refine v_iadd X dX4_advance_183 ?_
                  refine v_eqi (x' := nI (vn + 1)) (nI_add _ _) ?_
                  refine v_put X kcX4 fl_X4_67 dX4_advance_184 0 rfl (ws' := [ob hr 4 [.ref (ra 0), .int (nI fd), .ref (ra 2), .ref (ra 3), .int (nI re), .int (nI 5), .int (nI vn), .int (nI (vn + 1)), .long rv, .int (nI (rh).toNat), .ref (ra 10), .ref (ra 11), .ref (ra 12), .int (nI rc), .int (nI rf), .int rw], aB E (ra 0) 900 tp]) rfl rfl ?_
                  exact v_vret X Y dX4_advance_187 (wrV_of (by rw [adv_o (hq.trans (spc_end h8)) (by omega) (Or.inl h76) (Or.inl h116), if_neg h156, if_neg h166])) (by omega) (by omega)
                · refine v_iconst X dX4_advance_169 (v := nI 4) (by decide) ?_
                  refine v_goto X dX4_advance_170 (tgt := 174) (by decide) ?_
                  refine v_put X kcX4 fl_X4_90 dX4_advance_174 0 rfl (ws' := [ob hr 4 [.ref (ra 0), .int (nI fd), .ref (ra 2), .ref (ra 3), .int (nI re), .int (nI 4), .int (nI vn), .int (nI vn), .long rv, .int (nI (rh).toNat), .ref (ra 10), .ref (ra 11), .ref (ra 12), .int (nI rc), .int (nI rf), .int rw], aB E (ra 0) 900 tp]) rfl rfl ?_
                  refine v_aload_n X dX4_advance_177 rfl 1 rfl ?_
                  refine v_dup X dX4_advance_178 rfl ?_
                  refine v_get X kcX4 fl_X4_67 dX4_advance_179 0 rfl rfl ?_
                  refine v_iconst X dX4_advance_182 (v := nI 1) (by decide) ?_
                  refine v_iadd X dX4_advance_183 ?_
                  refine v_eqi (x' := nI (vn + 1)) (nI_add _ _) ?_
                  refine v_put X kcX4 fl_X4_67 dX4_advance_184 0 rfl (ws' := [ob hr 4 [.ref (ra 0), .int (nI fd), .ref (ra 2), .ref (ra 3), .int (nI re), .int (nI 4), .int (nI vn), .int (nI (vn + 1)), .long rv, .int (nI (rh).toNat), .ref (ra 10), .ref (ra 11), .ref (ra 12), .int (nI rc), .int (nI rf), .int rw], aB E (ra 0) 900 tp]) rfl rfl ?_
                  exact v_vret X Y dX4_advance_187 (wrV_of (by rw [adv_o (hq.trans (spc_end h8)) (by omega) (Or.inl h76) (Or.inl h116), if_neg h156, if_pos h166])) (by omega) (by omega)
              · refine v_iconst X dX4_advance_159 (v := nI 3) (by decide) ?_
                refine v_goto X dX4_advance_160 (tgt := 174) (by decide) ?_
                refine v_put X kcX4 fl_X4_90 dX4_advance_174 0 rfl (ws' := [ob hr 4 [.ref (ra 0), .int (nI fd), .ref (ra 2), .ref (ra 3), .int (nI re), .int (nI 3), .int (nI vn), .int (nI vn), .long rv, .int (nI (rh).toNat), .ref (ra 10), .ref (ra 11), .ref (ra 12), .int (nI rc), .int (nI rf), .int rw], aB E (ra 0) 900 tp]) rfl rfl ?_
                refine v_aload_n X dX4_advance_177 rfl 1 rfl ?_
                refine v_dup X dX4_advance_178 rfl ?_
                refine v_get X kcX4 fl_X4_67 dX4_advance_179 0 rfl rfl ?_
                refine v_iconst X dX4_advance_182 (v := nI 1) (by decide) ?_
                refine v_iadd X dX4_advance_183 ?_
                refine v_eqi (x' := nI (vn + 1)) (nI_add _ _) ?_
                refine v_put X kcX4 fl_X4_67 dX4_advance_184 0 rfl (ws' := [ob hr 4 [.ref (ra 0), .int (nI fd), .ref (ra 2), .ref (ra 3), .int (nI re), .int (nI 3), .int (nI vn), .int (nI (vn + 1)), .long rv, .int (nI (rh).toNat), .ref (ra 10), .ref (ra 11), .ref (ra 12), .int (nI rc), .int (nI rf), .int rw], aB E (ra 0) 900 tp]) rfl rfl ?_
                exact v_vret X Y dX4_advance_187 (wrV_of (by rw [adv_o (hq.trans (spc_end h8)) (by omega) (Or.inl h76) (Or.inl h116), if_pos h156])) (by omega) (by omega)
            · refine v_iload_n X dX4_advance_119 rfl 0 rfl ?_
              refine v_bipush X dX4_advance_120 (v := nI 57) (by decide) ?_
              refine v_icmp_gt X dX4_advance_122 (tgt := 152) (by decide) (fun h122 => ?_) (fun h122 => ?_)
              · refine v_aload_n X dX4_advance_152 rfl 1 rfl ?_
                refine v_iload_n X dX4_advance_153 rfl 0 rfl ?_
                refine v_bipush X dX4_advance_154 (v := nI 59) (by decide) ?_
                refine v_icmp_ne X dX4_advance_156 (tgt := 163) (by decide) (fun h156 => ?_) (fun h156 => ?_)
                · refine v_iload_n X dX4_advance_163 rfl 0 rfl ?_
                  refine v_bipush X dX4_advance_164 (v := nI 44) (by decide) ?_
                  refine v_icmp_ne X dX4_advance_166 (tgt := 173) (by decide) (fun h166 => ?_) (fun h166 => ?_)
                  · refine v_iconst X dX4_advance_173 (v := nI 5) (by decide) ?_
                    refine v_put X kcX4 fl_X4_90 dX4_advance_174 0 rfl (ws' := [ob hr 4 [.ref (ra 0), .int (nI fd), .ref (ra 2), .ref (ra 3), .int (nI re), .int (nI 5), .int (nI vn), .int (nI vn), .long rv, .int (nI (rh).toNat), .ref (ra 10), .ref (ra 11), .ref (ra 12), .int (nI rc), .int (nI rf), .int rw], aB E (ra 0) 900 tp]) rfl rfl ?_
                    refine v_aload_n X dX4_advance_177 rfl 1 rfl ?_
                    refine v_dup X dX4_advance_178 rfl ?_
                    refine v_get X kcX4 fl_X4_67 dX4_advance_179 0 rfl rfl ?_
                    refine v_iconst X dX4_advance_182 (v := nI 1) (by decide) ?_
                    refine v_iadd X dX4_advance_183 ?_
                    refine v_eqi (x' := nI (vn + 1)) (nI_add _ _) ?_
                    refine v_put X kcX4 fl_X4_67 dX4_advance_184 0 rfl (ws' := [ob hr 4 [.ref (ra 0), .int (nI fd), .ref (ra 2), .ref (ra 3), .int (nI re), .int (nI 5), .int (nI vn), .int (nI (vn + 1)), .long rv, .int (nI (rh).toNat), .ref (ra 10), .ref (ra 11), .ref (ra 12), .int (nI rc), .int (nI rf), .int rw], aB E (ra 0) 900 tp]) rfl rfl ?_
                    exact v_vret X Y dX4_advance_187 (wrV_of (by rw [adv_o (hq.trans (spc_end h8)) (by omega) (Or.inl h76) (Or.inr h122), if_neg h156, if_neg h166])) (by omega) (by omega)
                  · refine v_iconst X dX4_advance_169 (v := nI 4) (by decide) ?_
                    refine v_goto X dX4_advance_170 (tgt := 174) (by decide) ?_
                    refine v_put X kcX4 fl_X4_90 dX4_advance_174 0 rfl (ws' := [ob hr 4 [.ref (ra 0), .int (nI fd), .ref (ra 2), .ref (ra 3), .int (nI re), .int (nI 4), .int (nI vn), .int (nI vn), .long rv, .int (nI (rh).toNat), .ref (ra 10), .ref (ra 11), .ref (ra 12), .int (nI rc), .int (nI rf), .int rw], aB E (ra 0) 900 tp]) rfl rfl ?_
                    refine v_aload_n X dX4_advance_177 rfl 1 rfl ?_
                    refine v_dup X dX4_advance_178 rfl ?_
                    refine v_get X kcX4 fl_X4_67 dX4_advance_179 0 rfl rfl ?_
                    refine v_iconst X dX4_advance_182 (v := nI 1) (by decide) ?_
                    refine v_iadd X dX4_advance_183 ?_
                    refine v_eqi (x' := nI (vn + 1)) (nI_add _ _) ?_
                    refine v_put X kcX4 fl_X4_67 dX4_advance_184 0 rfl (ws' := [ob hr 4 [.ref (ra 0), .int (nI fd), .ref (ra 2), .ref (ra 3), .int (nI re), .int (nI 4), .int (nI vn), .int (nI (vn + 1)), .long rv, .int (nI (rh).toNat), .ref (ra 10), .ref (ra 11), .ref (ra 12), .int (nI rc), .int (nI rf), .int rw], aB E (ra 0) 900 tp]) rfl rfl ?_
                    exact v_vret X Y dX4_advance_187 (wrV_of (by rw [adv_o (hq.trans (spc_end h8)) (by omega) (Or.inl h76) (Or.inr h122), if_neg h156, if_pos h166])) (by omega) (by omega)
                · refine v_iconst X dX4_advance_159 (v := nI 3) (by decide) ?_
                  refine v_goto X dX4_advance_160 (tgt := 174) (by decide) ?_
                  refine v_put X kcX4 fl_X4_90 dX4_advance_174 0 rfl (ws' := [ob hr 4 [.ref (ra 0), .int (nI fd), .ref (ra 2), .ref (ra 3), .int (nI re), .int (nI 3), .int (nI vn), .int (nI vn), .long rv, .int (nI (rh).toNat), .ref (ra 10), .ref (ra 11), .ref (ra 12), .int (nI rc), .int (nI rf), .int rw], aB E (ra 0) 900 tp]) rfl rfl ?_
                  refine v_aload_n X dX4_advance_177 rfl 1 rfl ?_
                  refine v_dup X dX4_advance_178 rfl ?_
                  refine v_get X kcX4 fl_X4_67 dX4_advance_179 0 rfl rfl ?_
                  refine v_iconst X dX4_advance_182 (v := nI 1) (by decide) ?_
                  refine v_iadd X dX4_advance_183 ?_
                  refine v_eqi (x' := nI (vn + 1)) (nI_add _ _) ?_
                  refine v_put X kcX4 fl_X4_67 dX4_advance_184 0 rfl (ws' := [ob hr 4 [.ref (ra 0), .int (nI fd), .ref (ra 2), .ref (ra 3), .int (nI re), .int (nI 3), .int (nI vn), .int (nI (vn + 1)), .long rv, .int (nI (rh).toNat), .ref (ra 10), .ref (ra 11), .ref (ra 12), .int (nI rc), .int (nI rf), .int rw], aB E (ra 0) 900 tp]) rfl rfl ?_
                  exact v_vret X Y dX4_advance_187 (wrV_of (by rw [adv_o (hq.trans (spc_end h8)) (by omega) (Or.inl h76) (Or.inr h122), if_pos h156])) (by omega) (by omega)
              · refine v_aload_n X dX4_advance_125 rfl 1 rfl ?_
                refine v_aload_n X dX4_advance_126 rfl 1 rfl ?_
                refine v_bipush X dX4_advance_127 (v := nI 48) (by decide) ?_
                refine v_bipush X dX4_advance_129 (v := nI 57) (by decide) ?_
                refine v_bipush X dX4_advance_131 (v := nI 10) (by decide) ?_
                refine v_iconst X dX4_advance_133 (v := nI 0) (by decide) ?_
                refine v_wrI1 X (rn_V X k_X4_takeRun ml_X4_110 dX4_advance_134 (c_X4_takeRun l E hr ra fd re rk vn vn rv rh rc rf rw tp (nI 48) (nI 57) (nI 10) (nI 0) (by first | assumption | omega) (by first | assumption | omega) (Nat.le_refl _)) rfl 0 rfl rfl (by decide) (by decide) (by omega) (by omega) (Nat.le_of_ble_eq_true rfl)) [0, 1] rfl rfl (ws' := [ob hr 4 [.ref (ra 0), .int (nI fd), .ref (ra 2), .ref (ra 3), .int (nI re), .int (nI rk), .int (nI vn), .int (nI ((runF tp re (nI 48) (nI 57) (nI 10) (nI 0) (re - vn) (vn, lN 0)).1)), .long ((runF tp re (nI 48) (nI 57) (nI 10) (nI 0) (re - vn) (vn, lN 0)).2), .int (nI (rh).toNat), .ref (ra 10), .ref (ra 11), .ref (ra 12), .int (nI rc), .int (nI rf), .int rw], aB E (ra 0) 900 tp]) rfl rfl ?_
                refine v_iconst X dX4_advance_137 (v := nI 3) (by decide) ?_
                refine v_icmpN_gt X dX4_advance_138 (tgt := 145) (by decide) (Nat.lt_of_le_of_lt (run_sub _ _ _) (by omega)) (by decide) (fun h138 => ?_) (fun h138 => ?_)
                · refine v_iconst X dX4_advance_145 (v := nI 5) (by decide) ?_
                  refine v_put X kcX4 fl_X4_90 dX4_advance_146 0 rfl (ws' := [ob hr 4 [.ref (ra 0), .int (nI fd), .ref (ra 2), .ref (ra 3), .int (nI re), .int (nI 5), .int (nI vn), .int (nI ((runF tp re (nI 48) (nI 57) (nI 10) (nI 0) (re - vn) (vn, lN 0)).1)), .long ((runF tp re (nI 48) (nI 57) (nI 10) (nI 0) (re - vn) (vn, lN 0)).2), .int (nI (rh).toNat), .ref (ra 10), .ref (ra 11), .ref (ra 12), .int (nI rc), .int (nI rf), .int rw], aB E (ra 0) 900 tp]) rfl rfl ?_
                  refine v_goto X dX4_advance_149 (tgt := 187) (by decide) ?_
                  exact v_vret X Y dX4_advance_187 (wrV_of (by rw [adv_d (hq.trans (spc_end h8)) (by omega) (Or.inl h76) h116 h122, if_pos h138])) (by omega) (by omega)
                · refine v_iconst X dX4_advance_141 (v := nI 2) (by decide) ?_
                  refine v_goto X dX4_advance_142 (tgt := 146) (by decide) ?_
                  refine v_put X kcX4 fl_X4_90 dX4_advance_146 0 rfl (ws' := [ob hr 4 [.ref (ra 0), .int (nI fd), .ref (ra 2), .ref (ra 3), .int (nI re), .int (nI 2), .int (nI vn), .int (nI ((runF tp re (nI 48) (nI 57) (nI 10) (nI 0) (re - vn) (vn, lN 0)).1)), .long ((runF tp re (nI 48) (nI 57) (nI 10) (nI 0) (re - vn) (vn, lN 0)).2), .int (nI (rh).toNat), .ref (ra 10), .ref (ra 11), .ref (ra 12), .int (nI rc), .int (nI rf), .int rw], aB E (ra 0) 900 tp]) rfl rfl ?_
                  refine v_goto X dX4_advance_149 (tgt := 187) (by decide) ?_
                  exact v_vret X Y dX4_advance_187 (wrV_of (by rw [adv_d (hq.trans (spc_end h8)) (by omega) (Or.inl h76) h116 h122, if_neg h138])) (by omega) (by omega)
          · refine v_iload_n X dX4_advance_79 rfl 0 rfl ?_
            refine v_bipush X dX4_advance_80 (v := nI 122) (by decide) ?_
            refine v_icmp_gt X dX4_advance_82 (tgt := 113) (by decide) (fun h82 => ?_) (fun h82 => ?_)
            · refine v_iload_n X dX4_advance_113 rfl 0 rfl ?_
              refine v_bipush X dX4_advance_114 (v := nI 48) (by decide) ?_
              refine v_icmp_lt X dX4_advance_116 (tgt := 152) (by decide) (fun h116 => ?_) (fun h116 => ?_)
              · refine v_aload_n X dX4_advance_152 rfl 1 rfl ?_
                refine v_iload_n X dX4_advance_153 rfl 0 rfl ?_
                refine v_bipush X dX4_advance_154 (v := nI 59) (by decide) ?_
                refine v_icmp_ne X dX4_advance_156 (tgt := 163) (by decide) (fun h156 => ?_) (fun h156 => ?_)
                · refine v_iload_n X dX4_advance_163 rfl 0 rfl ?_
                  refine v_bipush X dX4_advance_164 (v := nI 44) (by decide) ?_
                  refine v_icmp_ne X dX4_advance_166 (tgt := 173) (by decide) (fun h166 => ?_) (fun h166 => ?_)
                  · refine v_iconst X dX4_advance_173 (v := nI 5) (by decide) ?_
                    refine v_put X kcX4 fl_X4_90 dX4_advance_174 0 rfl (ws' := [ob hr 4 [.ref (ra 0), .int (nI fd), .ref (ra 2), .ref (ra 3), .int (nI re), .int (nI 5), .int (nI vn), .int (nI vn), .long rv, .int (nI (rh).toNat), .ref (ra 10), .ref (ra 11), .ref (ra 12), .int (nI rc), .int (nI rf), .int rw], aB E (ra 0) 900 tp]) rfl rfl ?_
                    refine v_aload_n X dX4_advance_177 rfl 1 rfl ?_
                    refine v_dup X dX4_advance_178 rfl ?_
                    refine v_get X kcX4 fl_X4_67 dX4_advance_179 0 rfl rfl ?_
                    refine v_iconst X dX4_advance_182 (v := nI 1) (by decide) ?_
                    refine v_iadd X dX4_advance_183 ?_
                    refine v_eqi (x' := nI (vn + 1)) (nI_add _ _) ?_
                    refine v_put X kcX4 fl_X4_67 dX4_advance_184 0 rfl (ws' := [ob hr 4 [.ref (ra 0), .int (nI fd), .ref (ra 2), .ref (ra 3), .int (nI re), .int (nI 5), .int (nI vn), .int (nI (vn + 1)), .long rv, .int (nI (rh).toNat), .ref (ra 10), .ref (ra 11), .ref (ra 12), .int (nI rc), .int (nI rf), .int rw], aB E (ra 0) 900 tp]) rfl rfl ?_
                    exact v_vret X Y dX4_advance_187 (wrV_of (by rw [adv_o (hq.trans (spc_end h8)) (by omega) (Or.inr h82) (Or.inl h116), if_neg h156, if_neg h166])) (by omega) (by omega)
                  · refine v_iconst X dX4_advance_169 (v := nI 4) (by decide) ?_
                    refine v_goto X dX4_advance_170 (tgt := 174) (by decide) ?_
                    refine v_put X kcX4 fl_X4_90 dX4_advance_174 0 rfl (ws' := [ob hr 4 [.ref (ra 0), .int (nI fd), .ref (ra 2), .ref (ra 3), .int (nI re), .int (nI 4), .int (nI vn), .int (nI vn), .long rv, .int (nI (rh).toNat), .ref (ra 10), .ref (ra 11), .ref (ra 12), .int (nI rc), .int (nI rf), .int rw], aB E (ra 0) 900 tp]) rfl rfl ?_
                    refine v_aload_n X dX4_advance_177 rfl 1 rfl ?_
                    refine v_dup X dX4_advance_178 rfl ?_
                    refine v_get X kcX4 fl_X4_67 dX4_advance_179 0 rfl rfl ?_
                    refine v_iconst X dX4_advance_182 (v := nI 1) (by decide) ?_
                    refine v_iadd X dX4_advance_183 ?_
                    refine v_eqi (x' := nI (vn + 1)) (nI_add _ _) ?_
                    refine v_put X kcX4 fl_X4_67 dX4_advance_184 0 rfl (ws' := [ob hr 4 [.ref (ra 0), .int (nI fd), .ref (ra 2), .ref (ra 3), .int (nI re), .int (nI 4), .int (nI vn), .int (nI (vn + 1)), .long rv, .int (nI (rh).toNat), .ref (ra 10), .ref (ra 11), .ref (ra 12), .int (nI rc), .int (nI rf), .int rw], aB E (ra 0) 900 tp]) rfl rfl ?_
                    exact v_vret X Y dX4_advance_187 (wrV_of (by rw [adv_o (hq.trans (spc_end h8)) (by omega) (Or.inr h82) (Or.inl h116), if_neg h156, if_pos h166])) (by omega) (by omega)
                · refine v_iconst X dX4_advance_159 (v := nI 3) (by decide) ?_
                  refine v_goto X dX4_advance_160 (tgt := 174) (by decide) ?_
                  refine v_put X kcX4 fl_X4_90 dX4_advance_174 0 rfl (ws' := [ob hr 4 [.ref (ra 0), .int (nI fd), .ref (ra 2), .ref (ra 3), .int (nI re), .int (nI 3), .int (nI vn), .int (nI vn), .long rv, .int (nI (rh).toNat), .ref (ra 10), .ref (ra 11), .ref (ra 12), .int (nI rc), .int (nI rf), .int rw], aB E (ra 0) 900 tp]) rfl rfl ?_
                  refine v_aload_n X dX4_advance_177 rfl 1 rfl ?_
                  refine v_dup X dX4_advance_178 rfl ?_
                  refine v_get X kcX4 fl_X4_67 dX4_advance_179 0 rfl rfl ?_
                  refine v_iconst X dX4_advance_182 (v := nI 1) (by decide) ?_
                  refine v_iadd X dX4_advance_183 ?_
                  refine v_eqi (x' := nI (vn + 1)) (nI_add _ _) ?_
                  refine v_put X kcX4 fl_X4_67 dX4_advance_184 0 rfl (ws' := [ob hr 4 [.ref (ra 0), .int (nI fd), .ref (ra 2), .ref (ra 3), .int (nI re), .int (nI 3), .int (nI vn), .int (nI (vn + 1)), .long rv, .int (nI (rh).toNat), .ref (ra 10), .ref (ra 11), .ref (ra 12), .int (nI rc), .int (nI rf), .int rw], aB E (ra 0) 900 tp]) rfl rfl ?_
                  exact v_vret X Y dX4_advance_187 (wrV_of (by rw [adv_o (hq.trans (spc_end h8)) (by omega) (Or.inr h82) (Or.inl h116), if_pos h156])) (by omega) (by omega)
              · refine v_iload_n X dX4_advance_119 rfl 0 rfl ?_
                refine v_bipush X dX4_advance_120 (v := nI 57) (by decide) ?_
                refine v_icmp_gt X dX4_advance_122 (tgt := 152) (by decide) (fun h122 => ?_) (fun h122 => ?_)
                · refine v_aload_n X dX4_advance_152 rfl 1 rfl ?_
                  refine v_iload_n X dX4_advance_153 rfl 0 rfl ?_
                  refine v_bipush X dX4_advance_154 (v := nI 59) (by decide) ?_
                  refine v_icmp_ne X dX4_advance_156 (tgt := 163) (by decide) (fun h156 => ?_) (fun h156 => ?_)
                  · refine v_iload_n X dX4_advance_163 rfl 0 rfl ?_
                    refine v_bipush X dX4_advance_164 (v := nI 44) (by decide) ?_
                    refine v_icmp_ne X dX4_advance_166 (tgt := 173) (by decide) (fun h166 => ?_) (fun h166 => ?_)
                    · refine v_iconst X dX4_advance_173 (v := nI 5) (by decide) ?_
                      refine v_put X kcX4 fl_X4_90 dX4_advance_174 0 rfl (ws' := [ob hr 4 [.ref (ra 0), .int (nI fd), .ref (ra 2), .ref (ra 3), .int (nI re), .int (nI 5), .int (nI vn), .int (nI vn), .long rv, .int (nI (rh).toNat), .ref (ra 10), .ref (ra 11), .ref (ra 12), .int (nI rc), .int (nI rf), .int rw], aB E (ra 0) 900 tp]) rfl rfl ?_
                      refine v_aload_n X dX4_advance_177 rfl 1 rfl ?_
                      refine v_dup X dX4_advance_178 rfl ?_
                      refine v_get X kcX4 fl_X4_67 dX4_advance_179 0 rfl rfl ?_
                      refine v_iconst X dX4_advance_182 (v := nI 1) (by decide) ?_
                      refine v_iadd X dX4_advance_183 ?_
                      refine v_eqi (x' := nI (vn + 1)) (nI_add _ _) ?_
                      refine v_put X kcX4 fl_X4_67 dX4_advance_184 0 rfl (ws' := [ob hr 4 [.ref (ra 0), .int (nI fd), .ref (ra 2), .ref (ra 3), .int (nI re), .int (nI 5), .int (nI vn), .int (nI (vn + 1)), .long rv, .int (nI (rh).toNat), .ref (ra 10), .ref (ra 11), .ref (ra 12), .int (nI rc), .int (nI rf), .int rw], aB E (ra 0) 900 tp]) rfl rfl ?_
                      exact v_vret X Y dX4_advance_187 (wrV_of (by rw [adv_o (hq.trans (spc_end h8)) (by omega) (Or.inr h82) (Or.inr h122), if_neg h156, if_neg h166])) (by omega) (by omega)
                    · refine v_iconst X dX4_advance_169 (v := nI 4) (by decide) ?_
                      refine v_goto X dX4_advance_170 (tgt := 174) (by decide) ?_
                      refine v_put X kcX4 fl_X4_90 dX4_advance_174 0 rfl (ws' := [ob hr 4 [.ref (ra 0), .int (nI fd), .ref (ra 2), .ref (ra 3), .int (nI re), .int (nI 4), .int (nI vn), .int (nI vn), .long rv, .int (nI (rh).toNat), .ref (ra 10), .ref (ra 11), .ref (ra 12), .int (nI rc), .int (nI rf), .int rw], aB E (ra 0) 900 tp]) rfl rfl ?_
                      refine v_aload_n X dX4_advance_177 rfl 1 rfl ?_
                      refine v_dup X dX4_advance_178 rfl ?_
                      refine v_get X kcX4 fl_X4_67 dX4_advance_179 0 rfl rfl ?_
                      refine v_iconst X dX4_advance_182 (v := nI 1) (by decide) ?_
                      refine v_iadd X dX4_advance_183 ?_
                      refine v_eqi (x' := nI (vn + 1)) (nI_add _ _) ?_
                      refine v_put X kcX4 fl_X4_67 dX4_advance_184 0 rfl (ws' := [ob hr 4 [.ref (ra 0), .int (nI fd), .ref (ra 2), .ref (ra 3), .int (nI re), .int (nI 4), .int (nI vn), .int (nI (vn + 1)), .long rv, .int (nI (rh).toNat), .ref (ra 10), .ref (ra 11), .ref (ra 12), .int (nI rc), .int (nI rf), .int rw], aB E (ra 0) 900 tp]) rfl rfl ?_
                      exact v_vret X Y dX4_advance_187 (wrV_of (by rw [adv_o (hq.trans (spc_end h8)) (by omega) (Or.inr h82) (Or.inr h122), if_neg h156, if_pos h166])) (by omega) (by omega)
                  · refine v_iconst X dX4_advance_159 (v := nI 3) (by decide) ?_
                    refine v_goto X dX4_advance_160 (tgt := 174) (by decide) ?_
                    refine v_put X kcX4 fl_X4_90 dX4_advance_174 0 rfl (ws' := [ob hr 4 [.ref (ra 0), .int (nI fd), .ref (ra 2), .ref (ra 3), .int (nI re), .int (nI 3), .int (nI vn), .int (nI vn), .long rv, .int (nI (rh).toNat), .ref (ra 10), .ref (ra 11), .ref (ra 12), .int (nI rc), .int (nI rf), .int rw], aB E (ra 0) 900 tp]) rfl rfl ?_
                    refine v_aload_n X dX4_advance_177 rfl 1 rfl ?_
                    refine v_dup X dX4_advance_178 rfl ?_
                    refine v_get X kcX4 fl_X4_67 dX4_advance_179 0 rfl rfl ?_
                    refine v_iconst X dX4_advance_182 (v := nI 1) (by decide) ?_
                    refine v_iadd X dX4_advance_183 ?_
                    refine v_eqi (x' := nI (vn + 1)) (nI_add _ _) ?_
                    refine v_put X kcX4 fl_X4_67 dX4_advance_184 0 rfl (ws' := [ob hr 4 [.ref (ra 0), .int (nI fd), .ref (ra 2), .ref (ra 3), .int (nI re), .int (nI 3), .int (nI vn), .int (nI (vn + 1)), .long rv, .int (nI (rh).toNat), .ref (ra 10), .ref (ra 11), .ref (ra 12), .int (nI rc), .int (nI rf), .int rw], aB E (ra 0) 900 tp]) rfl rfl ?_
                    exact v_vret X Y dX4_advance_187 (wrV_of (by rw [adv_o (hq.trans (spc_end h8)) (by omega) (Or.inr h82) (Or.inr h122), if_pos h156])) (by omega) (by omega)
                · refine v_aload_n X dX4_advance_125 rfl 1 rfl ?_
                  refine v_aload_n X dX4_advance_126 rfl 1 rfl ?_
                  refine v_bipush X dX4_advance_127 (v := nI 48) (by decide) ?_
                  refine v_bipush X dX4_advance_129 (v := nI 57) (by decide) ?_
                  refine v_bipush X dX4_advance_131 (v := nI 10) (by decide) ?_
                  refine v_iconst X dX4_advance_133 (v := nI 0) (by decide) ?_
                  refine v_wrI1 X (rn_V X k_X4_takeRun ml_X4_110 dX4_advance_134 (c_X4_takeRun l E hr ra fd re rk vn vn rv rh rc rf rw tp (nI 48) (nI 57) (nI 10) (nI 0) (by first | assumption | omega) (by first | assumption | omega) (Nat.le_refl _)) rfl 0 rfl rfl (by decide) (by decide) (by omega) (by omega) (Nat.le_of_ble_eq_true rfl)) [0, 1] rfl rfl (ws' := [ob hr 4 [.ref (ra 0), .int (nI fd), .ref (ra 2), .ref (ra 3), .int (nI re), .int (nI rk), .int (nI vn), .int (nI ((runF tp re (nI 48) (nI 57) (nI 10) (nI 0) (re - vn) (vn, lN 0)).1)), .long ((runF tp re (nI 48) (nI 57) (nI 10) (nI 0) (re - vn) (vn, lN 0)).2), .int (nI (rh).toNat), .ref (ra 10), .ref (ra 11), .ref (ra 12), .int (nI rc), .int (nI rf), .int rw], aB E (ra 0) 900 tp]) rfl rfl ?_
                  refine v_iconst X dX4_advance_137 (v := nI 3) (by decide) ?_
                  refine v_icmpN_gt X dX4_advance_138 (tgt := 145) (by decide) (Nat.lt_of_le_of_lt (run_sub _ _ _) (by omega)) (by decide) (fun h138 => ?_) (fun h138 => ?_)
                  · refine v_iconst X dX4_advance_145 (v := nI 5) (by decide) ?_
                    refine v_put X kcX4 fl_X4_90 dX4_advance_146 0 rfl (ws' := [ob hr 4 [.ref (ra 0), .int (nI fd), .ref (ra 2), .ref (ra 3), .int (nI re), .int (nI 5), .int (nI vn), .int (nI ((runF tp re (nI 48) (nI 57) (nI 10) (nI 0) (re - vn) (vn, lN 0)).1)), .long ((runF tp re (nI 48) (nI 57) (nI 10) (nI 0) (re - vn) (vn, lN 0)).2), .int (nI (rh).toNat), .ref (ra 10), .ref (ra 11), .ref (ra 12), .int (nI rc), .int (nI rf), .int rw], aB E (ra 0) 900 tp]) rfl rfl ?_
                    refine v_goto X dX4_advance_149 (tgt := 187) (by decide) ?_
                    exact v_vret X Y dX4_advance_187 (wrV_of (by rw [adv_d (hq.trans (spc_end h8)) (by omega) (Or.inr h82) h116 h122, if_pos h138])) (by omega) (by omega)
                  · refine v_iconst X dX4_advance_141 (v := nI 2) (by decide) ?_
                    refine v_goto X dX4_advance_142 (tgt := 146) (by decide) ?_
                    refine v_put X kcX4 fl_X4_90 dX4_advance_146 0 rfl (ws' := [ob hr 4 [.ref (ra 0), .int (nI fd), .ref (ra 2), .ref (ra 3), .int (nI re), .int (nI 2), .int (nI vn), .int (nI ((runF tp re (nI 48) (nI 57) (nI 10) (nI 0) (re - vn) (vn, lN 0)).1)), .long ((runF tp re (nI 48) (nI 57) (nI 10) (nI 0) (re - vn) (vn, lN 0)).2), .int (nI (rh).toNat), .ref (ra 10), .ref (ra 11), .ref (ra 12), .int (nI rc), .int (nI rf), .int rw], aB E (ra 0) 900 tp]) rfl rfl ?_
                    refine v_goto X dX4_advance_149 (tgt := 187) (by decide) ?_
                    exact v_vret X Y dX4_advance_187 (wrV_of (by rw [adv_d (hq.trans (spc_end h8)) (by omega) (Or.inr h82) h116 h122, if_neg h138])) (by omega) (by omega)
            · refine v_aload_n X dX4_advance_85 rfl 1 rfl ?_
              refine v_aload_n X dX4_advance_86 rfl 1 rfl ?_
              refine v_bipush X dX4_advance_87 (v := nI 97) (by decide) ?_
              refine v_bipush X dX4_advance_89 (v := nI 122) (by decide) ?_
              refine v_bipush X dX4_advance_91 (v := nI 27) (by decide) ?_
              refine v_iconst X dX4_advance_93 (v := nI 1) (by decide) ?_
              refine v_wrI1 X (rn_V X k_X4_takeRun ml_X4_110 dX4_advance_94 (c_X4_takeRun l E hr ra fd re rk vn vn rv rh rc rf rw tp (nI 97) (nI 122) (nI 27) (nI 1) (by first | assumption | omega) (by first | assumption | omega) (Nat.le_refl _)) rfl 0 rfl rfl (by decide) (by decide) (by omega) (by omega) (Nat.le_of_ble_eq_true rfl)) [0, 1] rfl rfl (ws' := [ob hr 4 [.ref (ra 0), .int (nI fd), .ref (ra 2), .ref (ra 3), .int (nI re), .int (nI rk), .int (nI vn), .int (nI ((runF tp re (nI 97) (nI 122) (nI 27) (nI 1) (re - vn) (vn, lN 0)).1)), .long ((runF tp re (nI 97) (nI 122) (nI 27) (nI 1) (re - vn) (vn, lN 0)).2), .int (nI (rh).toNat), .ref (ra 10), .ref (ra 11), .ref (ra 12), .int (nI rc), .int (nI rf), .int rw], aB E (ra 0) 900 tp]) rfl rfl ?_
              refine v_bipush X dX4_advance_97 (v := nI 8) (by decide) ?_
              refine v_icmpN_gt X dX4_advance_99 (tgt := 106) (by decide) (Nat.lt_of_le_of_lt (run_sub _ _ _) (by omega)) (by decide) (fun h99 => ?_) (fun h99 => ?_)
              · refine v_iconst X dX4_advance_106 (v := nI 5) (by decide) ?_
                refine v_put X kcX4 fl_X4_90 dX4_advance_107 0 rfl (ws' := [ob hr 4 [.ref (ra 0), .int (nI fd), .ref (ra 2), .ref (ra 3), .int (nI re), .int (nI 5), .int (nI vn), .int (nI ((runF tp re (nI 97) (nI 122) (nI 27) (nI 1) (re - vn) (vn, lN 0)).1)), .long ((runF tp re (nI 97) (nI 122) (nI 27) (nI 1) (re - vn) (vn, lN 0)).2), .int (nI (rh).toNat), .ref (ra 10), .ref (ra 11), .ref (ra 12), .int (nI rc), .int (nI rf), .int rw], aB E (ra 0) 900 tp]) rfl rfl ?_
                refine v_goto X dX4_advance_110 (tgt := 187) (by decide) ?_
                exact v_vret X Y dX4_advance_187 (wrV_of (by rw [adv_w (hq.trans (spc_end h8)) (by omega) h76 h82, if_pos h99])) (by omega) (by omega)
              · refine v_iconst X dX4_advance_102 (v := nI 1) (by decide) ?_
                refine v_goto X dX4_advance_103 (tgt := 107) (by decide) ?_
                refine v_put X kcX4 fl_X4_90 dX4_advance_107 0 rfl (ws' := [ob hr 4 [.ref (ra 0), .int (nI fd), .ref (ra 2), .ref (ra 3), .int (nI re), .int (nI 1), .int (nI vn), .int (nI ((runF tp re (nI 97) (nI 122) (nI 27) (nI 1) (re - vn) (vn, lN 0)).1)), .long ((runF tp re (nI 97) (nI 122) (nI 27) (nI 1) (re - vn) (vn, lN 0)).2), .int (nI (rh).toNat), .ref (ra 10), .ref (ra 11), .ref (ra 12), .int (nI rc), .int (nI rf), .int rw], aB E (ra 0) 900 tp]) rfl rfl ?_
                refine v_goto X dX4_advance_110 (tgt := 187) (by decide) ?_
                exact v_vret X Y dX4_advance_187 (wrV_of (by rw [adv_w (hq.trans (spc_end h8)) (by omega) h76 h82, if_neg h99])) (by omega) (by omega)
        · refine v_aload_n X dX4_advance_57 rfl 0 rfl ?_
          refine v_iconst X dX4_advance_58 (v := nI 0) (by decide) ?_
          refine v_put X kcX4 fl_X4_90 dX4_advance_59 0 rfl (ws' := [ob hr 4 [.ref (ra 0), .int (nI fd), .ref (ra 2), .ref (ra 3), .int (nI re), .int (nI 0), .int (nI vn), .int (nI vn), .long rv, .int (nI (rh).toNat), .ref (ra 10), .ref (ra 11), .ref (ra 12), .int (nI rc), .int (nI rf), .int rw], aB E (ra 0) 900 tp]) rfl rfl ?_
          exact v_vret X Y dX4_advance_62 (wrV_of (by rw [adv_end (hq.trans (spc_end h8)) (by omega)])) (by omega) (by omega)
      · refine v_aload_n X dX4_advance_11 rfl 0 rfl ?_
        refine v_get X kcX4 fl_X4_9 dX4_advance_12 0 rfl rfl ?_
        refine v_aload_n X dX4_advance_15 rfl 0 rfl ?_
        refine v_get X kcX4 fl_X4_67 dX4_advance_16 0 rfl rfl ?_
        refine v_bald X dX4_advance_19 1 rfl (by omega) (by decide) ?_
        refine v_bipush X dX4_advance_20 (v := nI 32) (by decide) ?_
        refine v_icmp_ne X dX4_advance_22 (tgt := 38) (by decide) (fun h22 => ?_) (fun h22 => ?_)
        · refine v_aload_n X dX4_advance_38 rfl 0 rfl ?_
          refine v_aload_n X dX4_advance_39 rfl 0 rfl ?_
          refine v_get X kcX4 fl_X4_67 dX4_advance_40 0 rfl rfl ?_
          refine v_put X kcX4 fl_X4_107 dX4_advance_43 0 rfl (ws' := [ob hr 4 [.ref (ra 0), .int (nI fd), .ref (ra 2), .ref (ra 3), .int (nI re), .int (nI rk), .int (nI vn), .int (nI vn), .long rv, .int (nI (rh).toNat), .ref (ra 10), .ref (ra 11), .ref (ra 12), .int (nI rc), .int (nI rf), .int rw], aB E (ra 0) 900 tp]) rfl rfl ?_
          refine v_aload_n X dX4_advance_46 rfl 0 rfl ?_
          refine v_get X kcX4 fl_X4_107 dX4_advance_47 0 rfl rfl ?_
          refine v_aload_n X dX4_advance_50 rfl 0 rfl ?_
          refine v_get X kcX4 fl_X4_64 dX4_advance_51 0 rfl rfl ?_
          refine v_icmpN_lt X dX4_advance_54 (tgt := 63) (by decide) (by omega) (by omega) (fun h54 => ?_) (fun h54 => ?_)
          · refine v_aload_n X dX4_advance_63 rfl 0 rfl ?_
            refine v_get X kcX4 fl_X4_9 dX4_advance_64 0 rfl rfl ?_
            refine v_aload_n X dX4_advance_67 rfl 0 rfl ?_
            refine v_get X kcX4 fl_X4_107 dX4_advance_68 0 rfl rfl ?_
            refine v_bald X dX4_advance_71 1 rfl (by omega) (by decide) ?_
            refine v_istore_n X dX4_advance_72 rfl (by decide) (lv' := [(1, .int (tp vn)), (0, .ref hr)]) rfl ?_
            refine v_iload_n X dX4_advance_73 rfl 0 rfl ?_
            refine v_bipush X dX4_advance_74 (v := nI 97) (by decide) ?_
            refine v_icmp_lt X dX4_advance_76 (tgt := 113) (by decide) (fun h76 => ?_) (fun h76 => ?_)
            · refine v_iload_n X dX4_advance_113 rfl 0 rfl ?_
              refine v_bipush X dX4_advance_114 (v := nI 48) (by decide) ?_
              refine v_icmp_lt X dX4_advance_116 (tgt := 152) (by decide) (fun h116 => ?_) (fun h116 => ?_)
              · refine v_aload_n X dX4_advance_152 rfl 1 rfl ?_
                refine v_iload_n X dX4_advance_153 rfl 0 rfl ?_
                refine v_bipush X dX4_advance_154 (v := nI 59) (by decide) ?_
                refine v_icmp_ne X dX4_advance_156 (tgt := 163) (by decide) (fun h156 => ?_) (fun h156 => ?_)
                · refine v_iload_n X dX4_advance_163 rfl 0 rfl ?_
                  refine v_bipush X dX4_advance_164 (v := nI 44) (by decide) ?_
                  refine v_icmp_ne X dX4_advance_166 (tgt := 173) (by decide) (fun h166 => ?_) (fun h166 => ?_)
                  · refine v_iconst X dX4_advance_173 (v := nI 5) (by decide) ?_
                    refine v_put X kcX4 fl_X4_90 dX4_advance_174 0 rfl (ws' := [ob hr 4 [.ref (ra 0), .int (nI fd), .ref (ra 2), .ref (ra 3), .int (nI re), .int (nI 5), .int (nI vn), .int (nI vn), .long rv, .int (nI (rh).toNat), .ref (ra 10), .ref (ra 11), .ref (ra 12), .int (nI rc), .int (nI rf), .int rw], aB E (ra 0) 900 tp]) rfl rfl ?_
                    refine v_aload_n X dX4_advance_177 rfl 1 rfl ?_
                    refine v_dup X dX4_advance_178 rfl ?_
                    refine v_get X kcX4 fl_X4_67 dX4_advance_179 0 rfl rfl ?_
                    refine v_iconst X dX4_advance_182 (v := nI 1) (by decide) ?_
                    refine v_iadd X dX4_advance_183 ?_
                    refine v_eqi (x' := nI (vn + 1)) (nI_add _ _) ?_
                    refine v_put X kcX4 fl_X4_67 dX4_advance_184 0 rfl (ws' := [ob hr 4 [.ref (ra 0), .int (nI fd), .ref (ra 2), .ref (ra 3), .int (nI re), .int (nI 5), .int (nI vn), .int (nI (vn + 1)), .long rv, .int (nI (rh).toNat), .ref (ra 10), .ref (ra 11), .ref (ra 12), .int (nI rc), .int (nI rf), .int rw], aB E (ra 0) 900 tp]) rfl rfl ?_
                    exact v_vret X Y dX4_advance_187 (wrV_of (by rw [adv_o (hq.trans (spc_no (by omega) h22)) (by omega) (Or.inl h76) (Or.inl h116), if_neg h156, if_neg h166])) (by omega) (by omega)
                  · refine v_iconst X dX4_advance_169 (v := nI 4) (by decide) ?_
                    refine v_goto X dX4_advance_170 (tgt := 174) (by decide) ?_
                    refine v_put X kcX4 fl_X4_90 dX4_advance_174 0 rfl (ws' := [ob hr 4 [.ref (ra 0), .int (nI fd), .ref (ra 2), .ref (ra 3), .int (nI re), .int (nI 4), .int (nI vn), .int (nI vn), .long rv, .int (nI (rh).toNat), .ref (ra 10), .ref (ra 11), .ref (ra 12), .int (nI rc), .int (nI rf), .int rw], aB E (ra 0) 900 tp]) rfl rfl ?_
                    refine v_aload_n X dX4_advance_177 rfl 1 rfl ?_
                    refine v_dup X dX4_advance_178 rfl ?_
                    refine v_get X kcX4 fl_X4_67 dX4_advance_179 0 rfl rfl ?_
                    refine v_iconst X dX4_advance_182 (v := nI 1) (by decide) ?_
                    refine v_iadd X dX4_advance_183 ?_
                    refine v_eqi (x' := nI (vn + 1)) (nI_add _ _) ?_
                    refine v_put X kcX4 fl_X4_67 dX4_advance_184 0 rfl (ws' := [ob hr 4 [.ref (ra 0), .int (nI fd), .ref (ra 2), .ref (ra 3), .int (nI re), .int (nI 4), .int (nI vn), .int (nI (vn + 1)), .long rv, .int (nI (rh).toNat), .ref (ra 10), .ref (ra 11), .ref (ra 12), .int (nI rc), .int (nI rf), .int rw], aB E (ra 0) 900 tp]) rfl rfl ?_
                    exact v_vret X Y dX4_advance_187 (wrV_of (by rw [adv_o (hq.trans (spc_no (by omega) h22)) (by omega) (Or.inl h76) (Or.inl h116), if_neg h156, if_pos h166])) (by omega) (by omega)
                · refine v_iconst X dX4_advance_159 (v := nI 3) (by decide) ?_
                  refine v_goto X dX4_advance_160 (tgt := 174) (by decide) ?_
                  refine v_put X kcX4 fl_X4_90 dX4_advance_174 0 rfl (ws' := [ob hr 4 [.ref (ra 0), .int (nI fd), .ref (ra 2), .ref (ra 3), .int (nI re), .int (nI 3), .int (nI vn), .int (nI vn), .long rv, .int (nI (rh).toNat), .ref (ra 10), .ref (ra 11), .ref (ra 12), .int (nI rc), .int (nI rf), .int rw], aB E (ra 0) 900 tp]) rfl rfl ?_
                  refine v_aload_n X dX4_advance_177 rfl 1 rfl ?_
                  refine v_dup X dX4_advance_178 rfl ?_
                  refine v_get X kcX4 fl_X4_67 dX4_advance_179 0 rfl rfl ?_
                  refine v_iconst X dX4_advance_182 (v := nI 1) (by decide) ?_
                  refine v_iadd X dX4_advance_183 ?_
                  refine v_eqi (x' := nI (vn + 1)) (nI_add _ _) ?_
                  refine v_put X kcX4 fl_X4_67 dX4_advance_184 0 rfl (ws' := [ob hr 4 [.ref (ra 0), .int (nI fd), .ref (ra 2), .ref (ra 3), .int (nI re), .int (nI 3), .int (nI vn), .int (nI (vn + 1)), .long rv, .int (nI (rh).toNat), .ref (ra 10), .ref (ra 11), .ref (ra 12), .int (nI rc), .int (nI rf), .int rw], aB E (ra 0) 900 tp]) rfl rfl ?_
                  exact v_vret X Y dX4_advance_187 (wrV_of (by rw [adv_o (hq.trans (spc_no (by omega) h22)) (by omega) (Or.inl h76) (Or.inl h116), if_pos h156])) (by omega) (by omega)
              · refine v_iload_n X dX4_advance_119 rfl 0 rfl ?_
                refine v_bipush X dX4_advance_120 (v := nI 57) (by decide) ?_
                refine v_icmp_gt X dX4_advance_122 (tgt := 152) (by decide) (fun h122 => ?_) (fun h122 => ?_)
                · refine v_aload_n X dX4_advance_152 rfl 1 rfl ?_
                  refine v_iload_n X dX4_advance_153 rfl 0 rfl ?_
                  refine v_bipush X dX4_advance_154 (v := nI 59) (by decide) ?_
                  refine v_icmp_ne X dX4_advance_156 (tgt := 163) (by decide) (fun h156 => ?_) (fun h156 => ?_)
                  · refine v_iload_n X dX4_advance_163 rfl 0 rfl ?_
                    refine v_bipush X dX4_advance_164 (v := nI 44) (by decide) ?_
                    refine v_icmp_ne X dX4_advance_166 (tgt := 173) (by decide) (fun h166 => ?_) (fun h166 => ?_)
                    · refine v_iconst X dX4_advance_173 (v := nI 5) (by decide) ?_
                      refine v_put X kcX4 fl_X4_90 dX4_advance_174 0 rfl (ws' := [ob hr 4 [.ref (ra 0), .int (nI fd), .ref (ra 2), .ref (ra 3), .int (nI re), .int (nI 5), .int (nI vn), .int (nI vn), .long rv, .int (nI (rh).toNat), .ref (ra 10), .ref (ra 11), .ref (ra 12), .int (nI rc), .int (nI rf), .int rw], aB E (ra 0) 900 tp]) rfl rfl ?_
                      refine v_aload_n X dX4_advance_177 rfl 1 rfl ?_
                      refine v_dup X dX4_advance_178 rfl ?_
                      refine v_get X kcX4 fl_X4_67 dX4_advance_179 0 rfl rfl ?_
                      refine v_iconst X dX4_advance_182 (v := nI 1) (by decide) ?_
                      refine v_iadd X dX4_advance_183 ?_
                      refine v_eqi (x' := nI (vn + 1)) (nI_add _ _) ?_
                      refine v_put X kcX4 fl_X4_67 dX4_advance_184 0 rfl (ws' := [ob hr 4 [.ref (ra 0), .int (nI fd), .ref (ra 2), .ref (ra 3), .int (nI re), .int (nI 5), .int (nI vn), .int (nI (vn + 1)), .long rv, .int (nI (rh).toNat), .ref (ra 10), .ref (ra 11), .ref (ra 12), .int (nI rc), .int (nI rf), .int rw], aB E (ra 0) 900 tp]) rfl rfl ?_
                      exact v_vret X Y dX4_advance_187 (wrV_of (by rw [adv_o (hq.trans (spc_no (by omega) h22)) (by omega) (Or.inl h76) (Or.inr h122), if_neg h156, if_neg h166])) (by omega) (by omega)
                    · refine v_iconst X dX4_advance_169 (v := nI 4) (by decide) ?_
                      refine v_goto X dX4_advance_170 (tgt := 174) (by decide) ?_
                      refine v_put X kcX4 fl_X4_90 dX4_advance_174 0 rfl (ws' := [ob hr 4 [.ref (ra 0), .int (nI fd), .ref (ra 2), .ref (ra 3), .int (nI re), .int (nI 4), .int (nI vn), .int (nI vn), .long rv, .int (nI (rh).toNat), .ref (ra 10), .ref (ra 11), .ref (ra 12), .int (nI rc), .int (nI rf), .int rw], aB E (ra 0) 900 tp]) rfl rfl ?_
                      refine v_aload_n X dX4_advance_177 rfl 1 rfl ?_
                      refine v_dup X dX4_advance_178 rfl ?_
                      refine v_get X kcX4 fl_X4_67 dX4_advance_179 0 rfl rfl ?_
                      refine v_iconst X dX4_advance_182 (v := nI 1) (by decide) ?_
                      refine v_iadd X dX4_advance_183 ?_
                      refine v_eqi (x' := nI (vn + 1)) (nI_add _ _) ?_
                      refine v_put X kcX4 fl_X4_67 dX4_advance_184 0 rfl (ws' := [ob hr 4 [.ref (ra 0), .int (nI fd), .ref (ra 2), .ref (ra 3), .int (nI re), .int (nI 4), .int (nI vn), .int (nI (vn + 1)), .long rv, .int (nI (rh).toNat), .ref (ra 10), .ref (ra 11), .ref (ra 12), .int (nI rc), .int (nI rf), .int rw], aB E (ra 0) 900 tp]) rfl rfl ?_
                      exact v_vret X Y dX4_advance_187 (wrV_of (by rw [adv_o (hq.trans (spc_no (by omega) h22)) (by omega) (Or.inl h76) (Or.inr h122), if_neg h156, if_pos h166])) (by omega) (by omega)
                  · refine v_iconst X dX4_advance_159 (v := nI 3) (by decide) ?_
                    refine v_goto X dX4_advance_160 (tgt := 174) (by decide) ?_
                    refine v_put X kcX4 fl_X4_90 dX4_advance_174 0 rfl (ws' := [ob hr 4 [.ref (ra 0), .int (nI fd), .ref (ra 2), .ref (ra 3), .int (nI re), .int (nI 3), .int (nI vn), .int (nI vn), .long rv, .int (nI (rh).toNat), .ref (ra 10), .ref (ra 11), .ref (ra 12), .int (nI rc), .int (nI rf), .int rw], aB E (ra 0) 900 tp]) rfl rfl ?_
                    refine v_aload_n X dX4_advance_177 rfl 1 rfl ?_
                    refine v_dup X dX4_advance_178 rfl ?_
                    refine v_get X kcX4 fl_X4_67 dX4_advance_179 0 rfl rfl ?_
                    refine v_iconst X dX4_advance_182 (v := nI 1) (by decide) ?_
                    refine v_iadd X dX4_advance_183 ?_
                    refine v_eqi (x' := nI (vn + 1)) (nI_add _ _) ?_
                    refine v_put X kcX4 fl_X4_67 dX4_advance_184 0 rfl (ws' := [ob hr 4 [.ref (ra 0), .int (nI fd), .ref (ra 2), .ref (ra 3), .int (nI re), .int (nI 3), .int (nI vn), .int (nI (vn + 1)), .long rv, .int (nI (rh).toNat), .ref (ra 10), .ref (ra 11), .ref (ra 12), .int (nI rc), .int (nI rf), .int rw], aB E (ra 0) 900 tp]) rfl rfl ?_
                    exact v_vret X Y dX4_advance_187 (wrV_of (by rw [adv_o (hq.trans (spc_no (by omega) h22)) (by omega) (Or.inl h76) (Or.inr h122), if_pos h156])) (by omega) (by omega)
                · refine v_aload_n X dX4_advance_125 rfl 1 rfl ?_
                  refine v_aload_n X dX4_advance_126 rfl 1 rfl ?_
                  refine v_bipush X dX4_advance_127 (v := nI 48) (by decide) ?_
                  refine v_bipush X dX4_advance_129 (v := nI 57) (by decide) ?_
                  refine v_bipush X dX4_advance_131 (v := nI 10) (by decide) ?_
                  refine v_iconst X dX4_advance_133 (v := nI 0) (by decide) ?_
                  refine v_wrI1 X (rn_V X k_X4_takeRun ml_X4_110 dX4_advance_134 (c_X4_takeRun l E hr ra fd re rk vn vn rv rh rc rf rw tp (nI 48) (nI 57) (nI 10) (nI 0) (by first | assumption | omega) (by first | assumption | omega) (Nat.le_refl _)) rfl 0 rfl rfl (by decide) (by decide) (by omega) (by omega) (Nat.le_of_ble_eq_true rfl)) [0, 1] rfl rfl (ws' := [ob hr 4 [.ref (ra 0), .int (nI fd), .ref (ra 2), .ref (ra 3), .int (nI re), .int (nI rk), .int (nI vn), .int (nI ((runF tp re (nI 48) (nI 57) (nI 10) (nI 0) (re - vn) (vn, lN 0)).1)), .long ((runF tp re (nI 48) (nI 57) (nI 10) (nI 0) (re - vn) (vn, lN 0)).2), .int (nI (rh).toNat), .ref (ra 10), .ref (ra 11), .ref (ra 12), .int (nI rc), .int (nI rf), .int rw], aB E (ra 0) 900 tp]) rfl rfl ?_
                  refine v_iconst X dX4_advance_137 (v := nI 3) (by decide) ?_
                  refine v_icmpN_gt X dX4_advance_138 (tgt := 145) (by decide) (Nat.lt_of_le_of_lt (run_sub _ _ _) (by omega)) (by decide) (fun h138 => ?_) (fun h138 => ?_)
                  · refine v_iconst X dX4_advance_145 (v := nI 5) (by decide) ?_
                    refine v_put X kcX4 fl_X4_90 dX4_advance_146 0 rfl (ws' := [ob hr 4 [.ref (ra 0), .int (nI fd), .ref (ra 2), .ref (ra 3), .int (nI re), .int (nI 5), .int (nI vn), .int (nI ((runF tp re (nI 48) (nI 57) (nI 10) (nI 0) (re - vn) (vn, lN 0)).1)), .long ((runF tp re (nI 48) (nI 57) (nI 10) (nI 0) (re - vn) (vn, lN 0)).2), .int (nI (rh).toNat), .ref (ra 10), .ref (ra 11), .ref (ra 12), .int (nI rc), .int (nI rf), .int rw], aB E (ra 0) 900 tp]) rfl rfl ?_
                    refine v_goto X dX4_advance_149 (tgt := 187) (by decide) ?_
                    exact v_vret X Y dX4_advance_187 (wrV_of (by rw [adv_d (hq.trans (spc_no (by omega) h22)) (by omega) (Or.inl h76) h116 h122, if_pos h138])) (by omega) (by omega)
                  · refine v_iconst X dX4_advance_141 (v := nI 2) (by decide) ?_
                    refine v_goto X dX4_advance_142 (tgt := 146) (by decide) ?_
                    refine v_put X kcX4 fl_X4_90 dX4_advance_146 0 rfl (ws' := [ob hr 4 [.ref (ra 0), .int (nI fd), .ref (ra 2), .ref (ra 3), .int (nI re), .int (nI 2), .int (nI vn), .int (nI ((runF tp re (nI 48) (nI 57) (nI 10) (nI 0) (re - vn) (vn, lN 0)).1)), .long ((runF tp re (nI 48) (nI 57) (nI 10) (nI 0) (re - vn) (vn, lN 0)).2), .int (nI (rh).toNat), .ref (ra 10), .ref (ra 11), .ref (ra 12), .int (nI rc), .int (nI rf), .int rw], aB E (ra 0) 900 tp]) rfl rfl ?_
                    refine v_goto X dX4_advance_149 (tgt := 187) (by decide) ?_
                    exact v_vret X Y dX4_advance_187 (wrV_of (by rw [adv_d (hq.trans (spc_no (by omega) h22)) (by omega) (Or.inl h76) h116 h122, if_neg h138])) (by omega) (by omega)
            · refine v_iload_n X dX4_advance_79 rfl 0 rfl ?_
              refine v_bipush X dX4_advance_80 (v := nI 122) (by decide) ?_
              refine v_icmp_gt X dX4_advance_82 (tgt := 113) (by decide) (fun h82 => ?_) (fun h82 => ?_)
              · refine v_iload_n X dX4_advance_113 rfl 0 rfl ?_
                refine v_bipush X dX4_advance_114 (v := nI 48) (by decide) ?_
                refine v_icmp_lt X dX4_advance_116 (tgt := 152) (by decide) (fun h116 => ?_) (fun h116 => ?_)
                · refine v_aload_n X dX4_advance_152 rfl 1 rfl ?_
                  refine v_iload_n X dX4_advance_153 rfl 0 rfl ?_
                  refine v_bipush X dX4_advance_154 (v := nI 59) (by decide) ?_
                  refine v_icmp_ne X dX4_advance_156 (tgt := 163) (by decide) (fun h156 => ?_) (fun h156 => ?_)
                  · refine v_iload_n X dX4_advance_163 rfl 0 rfl ?_
                    refine v_bipush X dX4_advance_164 (v := nI 44) (by decide) ?_
                    refine v_icmp_ne X dX4_advance_166 (tgt := 173) (by decide) (fun h166 => ?_) (fun h166 => ?_)
                    · refine v_iconst X dX4_advance_173 (v := nI 5) (by decide) ?_
                      refine v_put X kcX4 fl_X4_90 dX4_advance_174 0 rfl (ws' := [ob hr 4 [.ref (ra 0), .int (nI fd), .ref (ra 2), .ref (ra 3), .int (nI re), .int (nI 5), .int (nI vn), .int (nI vn), .long rv, .int (nI (rh).toNat), .ref (ra 10), .ref (ra 11), .ref (ra 12), .int (nI rc), .int (nI rf), .int rw], aB E (ra 0) 900 tp]) rfl rfl ?_
                      refine v_aload_n X dX4_advance_177 rfl 1 rfl ?_
                      refine v_dup X dX4_advance_178 rfl ?_
                      refine v_get X kcX4 fl_X4_67 dX4_advance_179 0 rfl rfl ?_
                      refine v_iconst X dX4_advance_182 (v := nI 1) (by decide) ?_
                      refine v_iadd X dX4_advance_183 ?_
                      refine v_eqi (x' := nI (vn + 1)) (nI_add _ _) ?_
                      refine v_put X kcX4 fl_X4_67 dX4_advance_184 0 rfl (ws' := [ob hr 4 [.ref (ra 0), .int (nI fd), .ref (ra 2), .ref (ra 3), .int (nI re), .int (nI 5), .int (nI vn), .int (nI (vn + 1)), .long rv, .int (nI (rh).toNat), .ref (ra 10), .ref (ra 11), .ref (ra 12), .int (nI rc), .int (nI rf), .int rw], aB E (ra 0) 900 tp]) rfl rfl ?_
                      exact v_vret X Y dX4_advance_187 (wrV_of (by rw [adv_o (hq.trans (spc_no (by omega) h22)) (by omega) (Or.inr h82) (Or.inl h116), if_neg h156, if_neg h166])) (by omega) (by omega)
                    · refine v_iconst X dX4_advance_169 (v := nI 4) (by decide) ?_
                      refine v_goto X dX4_advance_170 (tgt := 174) (by decide) ?_
                      refine v_put X kcX4 fl_X4_90 dX4_advance_174 0 rfl (ws' := [ob hr 4 [.ref (ra 0), .int (nI fd), .ref (ra 2), .ref (ra 3), .int (nI re), .int (nI 4), .int (nI vn), .int (nI vn), .long rv, .int (nI (rh).toNat), .ref (ra 10), .ref (ra 11), .ref (ra 12), .int (nI rc), .int (nI rf), .int rw], aB E (ra 0) 900 tp]) rfl rfl ?_
                      refine v_aload_n X dX4_advance_177 rfl 1 rfl ?_
                      refine v_dup X dX4_advance_178 rfl ?_
                      refine v_get X kcX4 fl_X4_67 dX4_advance_179 0 rfl rfl ?_
                      refine v_iconst X dX4_advance_182 (v := nI 1) (by decide) ?_
                      refine v_iadd X dX4_advance_183 ?_
                      refine v_eqi (x' := nI (vn + 1)) (nI_add _ _) ?_
                      refine v_put X kcX4 fl_X4_67 dX4_advance_184 0 rfl (ws' := [ob hr 4 [.ref (ra 0), .int (nI fd), .ref (ra 2), .ref (ra 3), .int (nI re), .int (nI 4), .int (nI vn), .int (nI (vn + 1)), .long rv, .int (nI (rh).toNat), .ref (ra 10), .ref (ra 11), .ref (ra 12), .int (nI rc), .int (nI rf), .int rw], aB E (ra 0) 900 tp]) rfl rfl ?_
                      exact v_vret X Y dX4_advance_187 (wrV_of (by rw [adv_o (hq.trans (spc_no (by omega) h22)) (by omega) (Or.inr h82) (Or.inl h116), if_neg h156, if_pos h166])) (by omega) (by omega)
                  · refine v_iconst X dX4_advance_159 (v := nI 3) (by decide) ?_
                    refine v_goto X dX4_advance_160 (tgt := 174) (by decide) ?_
                    refine v_put X kcX4 fl_X4_90 dX4_advance_174 0 rfl (ws' := [ob hr 4 [.ref (ra 0), .int (nI fd), .ref (ra 2), .ref (ra 3), .int (nI re), .int (nI 3), .int (nI vn), .int (nI vn), .long rv, .int (nI (rh).toNat), .ref (ra 10), .ref (ra 11), .ref (ra 12), .int (nI rc), .int (nI rf), .int rw], aB E (ra 0) 900 tp]) rfl rfl ?_
                    refine v_aload_n X dX4_advance_177 rfl 1 rfl ?_
                    refine v_dup X dX4_advance_178 rfl ?_
                    refine v_get X kcX4 fl_X4_67 dX4_advance_179 0 rfl rfl ?_
                    refine v_iconst X dX4_advance_182 (v := nI 1) (by decide) ?_
                    refine v_iadd X dX4_advance_183 ?_
                    refine v_eqi (x' := nI (vn + 1)) (nI_add _ _) ?_
                    refine v_put X kcX4 fl_X4_67 dX4_advance_184 0 rfl (ws' := [ob hr 4 [.ref (ra 0), .int (nI fd), .ref (ra 2), .ref (ra 3), .int (nI re), .int (nI 3), .int (nI vn), .int (nI (vn + 1)), .long rv, .int (nI (rh).toNat), .ref (ra 10), .ref (ra 11), .ref (ra 12), .int (nI rc), .int (nI rf), .int rw], aB E (ra 0) 900 tp]) rfl rfl ?_
                    exact v_vret X Y dX4_advance_187 (wrV_of (by rw [adv_o (hq.trans (spc_no (by omega) h22)) (by omega) (Or.inr h82) (Or.inl h116), if_pos h156])) (by omega) (by omega)
                · refine v_iload_n X dX4_advance_119 rfl 0 rfl ?_
                  refine v_bipush X dX4_advance_120 (v := nI 57) (by decide) ?_
                  refine v_icmp_gt X dX4_advance_122 (tgt := 152) (by decide) (fun h122 => ?_) (fun h122 => ?_)
                  · refine v_aload_n X dX4_advance_152 rfl 1 rfl ?_
                    refine v_iload_n X dX4_advance_153 rfl 0 rfl ?_
                    refine v_bipush X dX4_advance_154 (v := nI 59) (by decide) ?_
                    refine v_icmp_ne X dX4_advance_156 (tgt := 163) (by decide) (fun h156 => ?_) (fun h156 => ?_)
                    · refine v_iload_n X dX4_advance_163 rfl 0 rfl ?_
                      refine v_bipush X dX4_advance_164 (v := nI 44) (by decide) ?_
                      refine v_icmp_ne X dX4_advance_166 (tgt := 173) (by decide) (fun h166 => ?_) (fun h166 => ?_)
                      · refine v_iconst X dX4_advance_173 (v := nI 5) (by decide) ?_
                        refine v_put X kcX4 fl_X4_90 dX4_advance_174 0 rfl (ws' := [ob hr 4 [.ref (ra 0), .int (nI fd), .ref (ra 2), .ref (ra 3), .int (nI re), .int (nI 5), .int (nI vn), .int (nI vn), .long rv, .int (nI (rh).toNat), .ref (ra 10), .ref (ra 11), .ref (ra 12), .int (nI rc), .int (nI rf), .int rw], aB E (ra 0) 900 tp]) rfl rfl ?_
                        refine v_aload_n X dX4_advance_177 rfl 1 rfl ?_
                        refine v_dup X dX4_advance_178 rfl ?_
                        refine v_get X kcX4 fl_X4_67 dX4_advance_179 0 rfl rfl ?_
                        refine v_iconst X dX4_advance_182 (v := nI 1) (by decide) ?_
                        refine v_iadd X dX4_advance_183 ?_
                        refine v_eqi (x' := nI (vn + 1)) (nI_add _ _) ?_
                        refine v_put X kcX4 fl_X4_67 dX4_advance_184 0 rfl (ws' := [ob hr 4 [.ref (ra 0), .int (nI fd), .ref (ra 2), .ref (ra 3), .int (nI re), .int (nI 5), .int (nI vn), .int (nI (vn + 1)), .long rv, .int (nI (rh).toNat), .ref (ra 10), .ref (ra 11), .ref (ra 12), .int (nI rc), .int (nI rf), .int rw], aB E (ra 0) 900 tp]) rfl rfl ?_
                        exact v_vret X Y dX4_advance_187 (wrV_of (by rw [adv_o (hq.trans (spc_no (by omega) h22)) (by omega) (Or.inr h82) (Or.inr h122), if_neg h156, if_neg h166])) (by omega) (by omega)
                      · refine v_iconst X dX4_advance_169 (v := nI 4) (by decide) ?_
                        refine v_goto X dX4_advance_170 (tgt := 174) (by decide) ?_
                        refine v_put X kcX4 fl_X4_90 dX4_advance_174 0 rfl (ws' := [ob hr 4 [.ref (ra 0), .int (nI fd), .ref (ra 2), .ref (ra 3), .int (nI re), .int (nI 4), .int (nI vn), .int (nI vn), .long rv, .int (nI (rh).toNat), .ref (ra 10), .ref (ra 11), .ref (ra 12), .int (nI rc), .int (nI rf), .int rw], aB E (ra 0) 900 tp]) rfl rfl ?_
                        refine v_aload_n X dX4_advance_177 rfl 1 rfl ?_
                        refine v_dup X dX4_advance_178 rfl ?_
                        refine v_get X kcX4 fl_X4_67 dX4_advance_179 0 rfl rfl ?_
                        refine v_iconst X dX4_advance_182 (v := nI 1) (by decide) ?_
                        refine v_iadd X dX4_advance_183 ?_
                        refine v_eqi (x' := nI (vn + 1)) (nI_add _ _) ?_
                        refine v_put X kcX4 fl_X4_67 dX4_advance_184 0 rfl (ws' := [ob hr 4 [.ref (ra 0), .int (nI fd), .ref (ra 2), .ref (ra 3), .int (nI re), .int (nI 4), .int (nI vn), .int (nI (vn + 1)), .long rv, .int (nI (rh).toNat), .ref (ra 10), .ref (ra 11), .ref (ra 12), .int (nI rc), .int (nI rf), .int rw], aB E (ra 0) 900 tp]) rfl rfl ?_
                        exact v_vret X Y dX4_advance_187 (wrV_of (by rw [adv_o (hq.trans (spc_no (by omega) h22)) (by omega) (Or.inr h82) (Or.inr h122), if_neg h156, if_pos h166])) (by omega) (by omega)
                    · refine v_iconst X dX4_advance_159 (v := nI 3) (by decide) ?_
                      refine v_goto X dX4_advance_160 (tgt := 174) (by decide) ?_
                      refine v_put X kcX4 fl_X4_90 dX4_advance_174 0 rfl (ws' := [ob hr 4 [.ref (ra 0), .int (nI fd), .ref (ra 2), .ref (ra 3), .int (nI re), .int (nI 3), .int (nI vn), .int (nI vn), .long rv, .int (nI (rh).toNat), .ref (ra 10), .ref (ra 11), .ref (ra 12), .int (nI rc), .int (nI rf), .int rw], aB E (ra 0) 900 tp]) rfl rfl ?_
                      refine v_aload_n X dX4_advance_177 rfl 1 rfl ?_
                      refine v_dup X dX4_advance_178 rfl ?_
                      refine v_get X kcX4 fl_X4_67 dX4_advance_179 0 rfl rfl ?_
                      refine v_iconst X dX4_advance_182 (v := nI 1) (by decide) ?_
                      refine v_iadd X dX4_advance_183 ?_
                      refine v_eqi (x' := nI (vn + 1)) (nI_add _ _) ?_
                      refine v_put X kcX4 fl_X4_67 dX4_advance_184 0 rfl (ws' := [ob hr 4 [.ref (ra 0), .int (nI fd), .ref (ra 2), .ref (ra 3), .int (nI re), .int (nI 3), .int (nI vn), .int (nI (vn + 1)), .long rv, .int (nI (rh).toNat), .ref (ra 10), .ref (ra 11), .ref (ra 12), .int (nI rc), .int (nI rf), .int rw], aB E (ra 0) 900 tp]) rfl rfl ?_
                      exact v_vret X Y dX4_advance_187 (wrV_of (by rw [adv_o (hq.trans (spc_no (by omega) h22)) (by omega) (Or.inr h82) (Or.inr h122), if_pos h156])) (by omega) (by omega)
                  · refine v_aload_n X dX4_advance_125 rfl 1 rfl ?_
                    refine v_aload_n X dX4_advance_126 rfl 1 rfl ?_
                    refine v_bipush X dX4_advance_127 (v := nI 48) (by decide) ?_
                    refine v_bipush X dX4_advance_129 (v := nI 57) (by decide) ?_
                    refine v_bipush X dX4_advance_131 (v := nI 10) (by decide) ?_
                    refine v_iconst X dX4_advance_133 (v := nI 0) (by decide) ?_
                    refine v_wrI1 X (rn_V X k_X4_takeRun ml_X4_110 dX4_advance_134 (c_X4_takeRun l E hr ra fd re rk vn vn rv rh rc rf rw tp (nI 48) (nI 57) (nI 10) (nI 0) (by first | assumption | omega) (by first | assumption | omega) (Nat.le_refl _)) rfl 0 rfl rfl (by decide) (by decide) (by omega) (by omega) (Nat.le_of_ble_eq_true rfl)) [0, 1] rfl rfl (ws' := [ob hr 4 [.ref (ra 0), .int (nI fd), .ref (ra 2), .ref (ra 3), .int (nI re), .int (nI rk), .int (nI vn), .int (nI ((runF tp re (nI 48) (nI 57) (nI 10) (nI 0) (re - vn) (vn, lN 0)).1)), .long ((runF tp re (nI 48) (nI 57) (nI 10) (nI 0) (re - vn) (vn, lN 0)).2), .int (nI (rh).toNat), .ref (ra 10), .ref (ra 11), .ref (ra 12), .int (nI rc), .int (nI rf), .int rw], aB E (ra 0) 900 tp]) rfl rfl ?_
                    refine v_iconst X dX4_advance_137 (v := nI 3) (by decide) ?_
                    refine v_icmpN_gt X dX4_advance_138 (tgt := 145) (by decide) (Nat.lt_of_le_of_lt (run_sub _ _ _) (by omega)) (by decide) (fun h138 => ?_) (fun h138 => ?_)
                    · refine v_iconst X dX4_advance_145 (v := nI 5) (by decide) ?_
                      refine v_put X kcX4 fl_X4_90 dX4_advance_146 0 rfl (ws' := [ob hr 4 [.ref (ra 0), .int (nI fd), .ref (ra 2), .ref (ra 3), .int (nI re), .int (nI 5), .int (nI vn), .int (nI ((runF tp re (nI 48) (nI 57) (nI 10) (nI 0) (re - vn) (vn, lN 0)).1)), .long ((runF tp re (nI 48) (nI 57) (nI 10) (nI 0) (re - vn) (vn, lN 0)).2), .int (nI (rh).toNat), .ref (ra 10), .ref (ra 11), .ref (ra 12), .int (nI rc), .int (nI rf), .int rw], aB E (ra 0) 900 tp]) rfl rfl ?_
                      refine v_goto X dX4_advance_149 (tgt := 187) (by decide) ?_
                      exact v_vret X Y dX4_advance_187 (wrV_of (by rw [adv_d (hq.trans (spc_no (by omega) h22)) (by omega) (Or.inr h82) h116 h122, if_pos h138])) (by omega) (by omega)
                    · refine v_iconst X dX4_advance_141 (v := nI 2) (by decide) ?_
                      refine v_goto X dX4_advance_142 (tgt := 146) (by decide) ?_
                      refine v_put X kcX4 fl_X4_90 dX4_advance_146 0 rfl (ws' := [ob hr 4 [.ref (ra 0), .int (nI fd), .ref (ra 2), .ref (ra 3), .int (nI re), .int (nI 2), .int (nI vn), .int (nI ((runF tp re (nI 48) (nI 57) (nI 10) (nI 0) (re - vn) (vn, lN 0)).1)), .long ((runF tp re (nI 48) (nI 57) (nI 10) (nI 0) (re - vn) (vn, lN 0)).2), .int (nI (rh).toNat), .ref (ra 10), .ref (ra 11), .ref (ra 12), .int (nI rc), .int (nI rf), .int rw], aB E (ra 0) 900 tp]) rfl rfl ?_
                      refine v_goto X dX4_advance_149 (tgt := 187) (by decide) ?_
                      exact v_vret X Y dX4_advance_187 (wrV_of (by rw [adv_d (hq.trans (spc_no (by omega) h22)) (by omega) (Or.inr h82) h116 h122, if_neg h138])) (by omega) (by omega)
              · refine v_aload_n X dX4_advance_85 rfl 1 rfl ?_
                refine v_aload_n X dX4_advance_86 rfl 1 rfl ?_
                refine v_bipush X dX4_advance_87 (v := nI 97) (by decide) ?_
                refine v_bipush X dX4_advance_89 (v := nI 122) (by decide) ?_
                refine v_bipush X dX4_advance_91 (v := nI 27) (by decide) ?_
                refine v_iconst X dX4_advance_93 (v := nI 1) (by decide) ?_
                refine v_wrI1 X (rn_V X k_X4_takeRun ml_X4_110 dX4_advance_94 (c_X4_takeRun l E hr ra fd re rk vn vn rv rh rc rf rw tp (nI 97) (nI 122) (nI 27) (nI 1) (by first | assumption | omega) (by first | assumption | omega) (Nat.le_refl _)) rfl 0 rfl rfl (by decide) (by decide) (by omega) (by omega) (Nat.le_of_ble_eq_true rfl)) [0, 1] rfl rfl (ws' := [ob hr 4 [.ref (ra 0), .int (nI fd), .ref (ra 2), .ref (ra 3), .int (nI re), .int (nI rk), .int (nI vn), .int (nI ((runF tp re (nI 97) (nI 122) (nI 27) (nI 1) (re - vn) (vn, lN 0)).1)), .long ((runF tp re (nI 97) (nI 122) (nI 27) (nI 1) (re - vn) (vn, lN 0)).2), .int (nI (rh).toNat), .ref (ra 10), .ref (ra 11), .ref (ra 12), .int (nI rc), .int (nI rf), .int rw], aB E (ra 0) 900 tp]) rfl rfl ?_
                refine v_bipush X dX4_advance_97 (v := nI 8) (by decide) ?_
                refine v_icmpN_gt X dX4_advance_99 (tgt := 106) (by decide) (Nat.lt_of_le_of_lt (run_sub _ _ _) (by omega)) (by decide) (fun h99 => ?_) (fun h99 => ?_)
                · refine v_iconst X dX4_advance_106 (v := nI 5) (by decide) ?_
                  refine v_put X kcX4 fl_X4_90 dX4_advance_107 0 rfl (ws' := [ob hr 4 [.ref (ra 0), .int (nI fd), .ref (ra 2), .ref (ra 3), .int (nI re), .int (nI 5), .int (nI vn), .int (nI ((runF tp re (nI 97) (nI 122) (nI 27) (nI 1) (re - vn) (vn, lN 0)).1)), .long ((runF tp re (nI 97) (nI 122) (nI 27) (nI 1) (re - vn) (vn, lN 0)).2), .int (nI (rh).toNat), .ref (ra 10), .ref (ra 11), .ref (ra 12), .int (nI rc), .int (nI rf), .int rw], aB E (ra 0) 900 tp]) rfl rfl ?_
                  refine v_goto X dX4_advance_110 (tgt := 187) (by decide) ?_
                  exact v_vret X Y dX4_advance_187 (wrV_of (by rw [adv_w (hq.trans (spc_no (by omega) h22)) (by omega) h76 h82, if_pos h99])) (by omega) (by omega)
                · refine v_iconst X dX4_advance_102 (v := nI 1) (by decide) ?_
                  refine v_goto X dX4_advance_103 (tgt := 107) (by decide) ?_
                  refine v_put X kcX4 fl_X4_90 dX4_advance_107 0 rfl (ws' := [ob hr 4 [.ref (ra 0), .int (nI fd), .ref (ra 2), .ref (ra 3), .int (nI re), .int (nI 1), .int (nI vn), .int (nI ((runF tp re (nI 97) (nI 122) (nI 27) (nI 1) (re - vn) (vn, lN 0)).1)), .long ((runF tp re (nI 97) (nI 122) (nI 27) (nI 1) (re - vn) (vn, lN 0)).2), .int (nI (rh).toNat), .ref (ra 10), .ref (ra 11), .ref (ra 12), .int (nI rc), .int (nI rf), .int rw], aB E (ra 0) 900 tp]) rfl rfl ?_
                  refine v_goto X dX4_advance_110 (tgt := 187) (by decide) ?_
                  exact v_vret X Y dX4_advance_187 (wrV_of (by rw [adv_w (hq.trans (spc_no (by omega) h22)) (by omega) h76 h82, if_neg h99])) (by omega) (by omega)
          · refine v_aload_n X dX4_advance_57 rfl 0 rfl ?_
            refine v_iconst X dX4_advance_58 (v := nI 0) (by decide) ?_
            refine v_put X kcX4 fl_X4_90 dX4_advance_59 0 rfl (ws' := [ob hr 4 [.ref (ra 0), .int (nI fd), .ref (ra 2), .ref (ra 3), .int (nI re), .int (nI 0), .int (nI vn), .int (nI vn), .long rv, .int (nI (rh).toNat), .ref (ra 10), .ref (ra 11), .ref (ra 12), .int (nI rc), .int (nI rf), .int rw], aB E (ra 0) 900 tp]) rfl rfl ?_
            exact v_vret X Y dX4_advance_62 (wrV_of (by rw [adv_end (hq.trans (spc_no (by omega) h22)) (by omega)])) (by omega) (by omega)
        · refine v_aload_n X dX4_advance_25 rfl 0 rfl ?_
          refine v_dup X dX4_advance_26 rfl ?_
          refine v_get X kcX4 fl_X4_67 dX4_advance_27 0 rfl rfl ?_
          refine v_iconst X dX4_advance_30 (v := nI 1) (by decide) ?_
          refine v_iadd X dX4_advance_31 ?_
          refine v_eqi (x' := nI (vn + 1)) (nI_add _ _) ?_
          refine v_put X kcX4 fl_X4_67 dX4_advance_32 0 rfl (ws' := [ob hr 4 [.ref (ra 0), .int (nI fd), .ref (ra 2), .ref (ra 3), .int (nI re), .int (nI rk), .int (nI rp), .int (nI (vn + 1)), .long rv, .int (nI (rh).toNat), .ref (ra 10), .ref (ra 11), .ref (ra 12), .int (nI rc), .int (nI rf), .int rw], aB E (ra 0) 900 tp]) rfl rfl ?_
          refine v_goto X dX4_advance_35 (tgt := 0) (by decide) ?_
          refine V.lvs [0] rfl ?_
          exact ih0 (vn + 1) (⟨by omega, hq.trans (spc_go (by omega) h22)⟩) (by omega)
  refine V.lvs [0] rfl ?_
  exact L0 _ rn (⟨hrn, rfl⟩) (Nat.lt_succ_self _)
