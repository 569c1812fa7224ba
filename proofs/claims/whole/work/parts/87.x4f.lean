set_option maxRecDepth 100000 in
set_option maxHeartbeats 4000000 in
theorem c_X4_readClause (l : Launch) (E : Et) (hr : Nat) (ra : Nat → Nat) (fd : Nat) (re : Nat) (rk : Nat) (rp : Nat) (rn : Nat) (rv : Int64) (rh : Bool) (rc : Nat) (rf : Nat) (rw : Int32) (tp : Nat → Int32) (kwd : Nat → Int64) (nms : Nat → Int64) (nso : Nat → Nat) (nnu : Nat → Nat) (cy : Nat → Nat) (ca : Nat → Nat) (f0 : Nat → Nat) (f1 : Nat → Nat) (f2 : Nat → Int32) (f3 : Nat → Nat) (f4 : Nat → Nat) (Fs : Nat → Nat) (Ft : Nat → Nat) (hre : re ≤ 900) (hT : tkO re (rk, rp, rn, rv)) (hrc : rc ≤ 18) (hns : ∀ i, i < rc → nso i ≤ 5) (hnn : ∀ i, i < rc → nnu i < 8) (hc5 : cy 5 < 8) : Ct l E yX4_readClause cX4_readClause 7 (some .boolean) 7 0 0 [.ref hr] [ob hr 4 [.ref (ra 0), .int (nI fd), .ref (ra 2), .ref (ra 3), .int (nI re), .int (nI rk), .int (nI rp), .int (nI rn), .long rv, .int (nI (rh).toNat), .ref (ra 10), .ref (ra 11), .ref (ra 12), .int (nI rc), .int (nI rf), .int rw], aB E (ra 0) 900 tp, aL E (ra 2) 6 kwd, aL E (ra 10) 18 nms, aN E (ra 11) 18 nso, aN E (ra 12) 18 nnu, ob (ra 3) 0 [.int (nI (cy 0)), .int (nI (cy 1)), .int (nI (cy 2)), .int (nI (cy 3)), .int (nI (cy 4)), .int (nI (cy 5)), .int (nI (cy 6)), .int (nI (cy 7)), .ref (ca 0), .ref (ca 1), .ref (ca 2), .ref (ca 3), .ref (ca 4), .ref (ca 5), .ref (ca 6), .ref (ca 7), .ref (ca 8), .ref (ca 9), .ref (ca 10), .ref (ca 11)], aN E (ca 0) 8 f0, aN E (ca 1) 8 f1, aI E (ca 2) 8 f2, aN E (ca 3) 8 f3, aN E (ca 4) 8 f4, aM E (ca 5) 8 Fs, aM E (ca 6) 8 Ft] ((fun r w => (∃ (xm : Nat) (xi : Nat) (xf : Nat) (xa : Nat) (xb : Int32) (k1 : Nat) (p1 : Nat) (n1 : Nat) (v1 : Int64), (clauseF tp re kwd (cy 5) (rc, nms, nso, nnu) (rk, rp, rn, rv) = .inr ((rc + 1, vp_updL nms rc rv, upN nso rc 3, upN nnu rc (cy 5)), xm, xi, xf, xa, xb, (k1, p1, n1, v1))) ∧ (tkO re (k1, p1, n1, v1)) ∧ (rn ≤ p1) ∧ (rc < 18) ∧ (xf ≤ 5) ∧ (xi ≤ 40) ∧ (1 ≤ xi) ∧ (∃ q, q < rc + 1 ∧ upN nso rc 3 q = 1 ∧ upN nnu rc (cy 5) q = xm) ∧ (∃ q, q < rc + 1 ∧ upN nso rc 3 q = 2 ∧ upN nnu rc (cy 5) q = xa) ∧ ((xb = -2 ∧ xf ≤ 1) ∨ (¬ xf ≤ 1 ∧ ∃ y, xb = nI y ∧ y ≠ xa ∧ ∃ q, q < rc + 1 ∧ upN nso rc 3 q = 2 ∧ upN nnu rc (cy 5) q = y)) ∧ w = [ob hr 4 [.ref (ra 0), .int (nI fd), .ref (ra 2), .ref (ra 3), .int (nI re), .int (nI k1), .int (nI p1), .int (nI n1), .long v1, .int (nI (rh).toNat), .ref (ra 10), .ref (ra 11), .ref (ra 12), .int (nI (rc + 1)), .int (nI rf), .int rw], aB E (ra 0) 900 tp, aL E (ra 2) 6 kwd, aL E (ra 10) 18 (vp_updL nms rc rv), aN E (ra 11) 18 (upN nso rc 3), aN E (ra 12) 18 (upN nnu rc (cy 5)), ob (ra 3) 0 [.int (nI ((upN cy 5 (cy 5 + 1)) 0)), .int (nI ((upN cy 5 (cy 5 + 1)) 1)), .int (nI ((upN cy 5 (cy 5 + 1)) 2)), .int (nI ((upN cy 5 (cy 5 + 1)) 3)), .int (nI ((upN cy 5 (cy 5 + 1)) 4)), .int (nI ((upN cy 5 (cy 5 + 1)) 5)), .int (nI ((upN cy 5 (cy 5 + 1)) 6)), .int (nI ((upN cy 5 (cy 5 + 1)) 7)), .ref (ca 0), .ref (ca 1), .ref (ca 2), .ref (ca 3), .ref (ca 4), .ref (ca 5), .ref (ca 6), .ref (ca 7), .ref (ca 8), .ref (ca 9), .ref (ca 10), .ref (ca 11)], aN E (ca 0) 8 (upN f0 (cy 5) xf), aN E (ca 1) 8 (upN f1 (cy 5) xa), aI E (ca 2) 8 (upd f2 (cy 5) xb), aN E (ca 3) 8 (upN f3 (cy 5) xm), aN E (ca 4) 8 (upN f4 (cy 5) xi), aM E (ca 5) 8 (upN Fs (cy 5) (strN xf (swI (nI xa)) (swI xb))), aM E (ca 6) 8 (upN Ft (cy 5) (turN xf (swI (nI xa)) (swI xb)))] ∧ r = some (.int (nI 1))) ∨ (∃ (f : Nat) (p : Nat) (k1 : Nat) (p1 : Nat) (n1 : Nat) (v1 : Int64) (jc : Nat) (jn : Nat → Int64) (jo : Nat → Nat) (ju : Nat → Nat), (clauseF tp re kwd (cy 5) (rc, nms, nso, nnu) (rk, rp, rn, rv) = .inl (f, p)) ∧ w = [ob hr 4 [.ref (ra 0), .int (nI fd), .ref (ra 2), .ref (ra 3), .int (nI re), .int (nI k1), .int (nI p1), .int (nI n1), .long v1, .int (nI (rh).toNat), .ref (ra 10), .ref (ra 11), .ref (ra 12), .int (nI jc), .int (nI f), .int (nI p)], aB E (ra 0) 900 tp, aL E (ra 2) 6 kwd, aL E (ra 10) 18 jn, aN E (ra 11) 18 jo, aN E (ra 12) 18 ju, ob (ra 3) 0 [.int (nI (cy 0)), .int (nI (cy 1)), .int (nI (cy 2)), .int (nI (cy 3)), .int (nI (cy 4)), .int (nI (cy 5)), .int (nI (cy 6)), .int (nI (cy 7)), .ref (ca 0), .ref (ca 1), .ref (ca 2), .ref (ca 3), .ref (ca 4), .ref (ca 5), .ref (ca 6), .ref (ca 7), .ref (ca 8), .ref (ca 9), .ref (ca 10), .ref (ca 11)], aN E (ca 0) 8 f0, aN E (ca 1) 8 f1, aI E (ca 2) 8 f2, aN E (ca 3) 8 f3, aN E (ca 4) 8 f4, aM E (ca 5) 8 Fs, aM E (ca 6) 8 Ft] ∧ r = some (.int (nI 0))))) := by
  refine Ct.intro (by decide +kernel) (Nat.le_of_ble_eq_true rfl) (lv := [(0, .ref hr)]) rfl ?_
  intro Z X Y
  refine v_aload_n X dX4_readClause_0 rfl 0 rfl ?_
  refine v_iconst X dX4_readClause_1 (v := nI 3) (by decide) ?_
  refine v_aload_n X dX4_readClause_2 rfl 0 rfl ?_
  refine v_get X kcX4 fl_X4_48 dX4_readClause_3 0 rfl rfl ?_
  refine v_getN X kcX0 fl_X4_147 dX4_readClause_6 6 rfl rfl ?_
  refine v_wr X (rn_V X k_X4_tellsName ml_X4_194 dX4_readClause_9 (c_X4_tellsNameA l E hr ra fd re rk rp rn rv rh rc rf rw tp kwd nms nso nnu 3 (cy 5) (by first | assumption | omega) (by first | assumption | omega) (by first | assumption | omega)) rfl 0 rfl rfl (by decide) (by decide) (by omega) (by omega) (Nat.le_of_ble_eq_true rfl)) [0, 1, 2, 3, 4, 5] rfl rfl (fun r w1 hpo => ?_)
  rcases hpo with ⟨k1_9, p1_9, n1_9, v1_9, hW_9, hc_9, hO_9, hP_9, rfl, rfl⟩ | ⟨f_9, hW_9, rfl, rfl⟩
  · refine ⟨rfl, ?_⟩
    refine V.cast (st' := [.int (nI 1)]) (ws' := [ob hr 4 [.ref (ra 0), .int (nI fd), .ref (ra 2), .ref (ra 3), .int (nI re), .int (nI k1_9), .int (nI p1_9), .int (nI n1_9), .long v1_9, .int (nI (rh).toNat), .ref (ra 10), .ref (ra 11), .ref (ra 12), .int (nI (rc + 1)), .int (nI rf), .int rw], aB E (ra 0) 900 tp, aL E (ra 2) 6 kwd, aL E (ra 10) 18 (vp_updL nms rc rv), aN E (ra 11) 18 (upN nso rc 3), aN E (ra 12) 18 (upN nnu rc (cy 5)), ob (ra 3) 0 [.int (nI (cy 0)), .int (nI (cy 1)), .int (nI (cy 2)), .int (nI (cy 3)), .int (nI (cy 4)), .int (nI (cy 5)), .int (nI (cy 6)), .int (nI (cy 7)), .ref (ca 0), .ref (ca 1), .ref (ca 2), .ref (ca 3), .ref (ca 4), .ref (ca 5), .ref (ca 6), .ref (ca 7), .ref (ca 8), .ref (ca 9), .ref (ca 10), .ref (ca 11)], aN E (ca 0) 8 f0, aN E (ca 1) 8 f1, aI E (ca 2) 8 f2, aN E (ca 3) 8 f3, aN E (ca 4) 8 f4, aM E (ca 5) 8 Fs, aM E (ca 6) 8 Ft]) rfl rfl rfl ?_
    have hQ_9 : p1_9 ≤ n1_9 := hO_9.2.1
    have hns2 : ∀ i, i < rc + 1 → upN nso rc 3 i ≤ 5 := up_bd hns (by decide)
    have hnn2 : ∀ i, i < rc + 1 → upN nnu rc (cy 5) i < 8 := up_bl hnn hc5
    refine v_ifN_ne X dX4_readClause_12 (tgt := 17) (by decide) (by decide) (fun h12 => ?_) (fun h12 => ?_)
    · refine v_aload_n X dX4_readClause_17 rfl 0 rfl ?_
      refine v_ldcS X dX4_readClause_18 (i := 9) (tx := "on") (by decide) ?_
      refine v_wr X (rn_V X k_X4_passesWord ml_X4_178 dX4_readClause_20 (c_X4_passesWordA l E hr ra fd re k1_9 p1_9 n1_9 v1_9 rh (rc + 1) rf rw tp 9 (by decide) (by first | assumption | omega) (by first | assumption | omega)) rfl 0 rfl rfl (by decide) (by decide) (by omega) (by omega) (Nat.le_of_ble_eq_true rfl)) [0, 1] rfl rfl (fun r w1 hpo => ?_)
      rcases hpo with ⟨k1_20, p1_20, n1_20, v1_20, hW_20, hO_20, hP_20, rfl, rfl⟩ | ⟨hW_20, rfl, rfl⟩
      · refine ⟨rfl, ?_⟩
        refine V.cast (st' := [.int (nI 1)]) (ws' := [ob hr 4 [.ref (ra 0), .int (nI fd), .ref (ra 2), .ref (ra 3), .int (nI re), .int (nI k1_20), .int (nI p1_20), .int (nI n1_20), .long v1_20, .int (nI (rh).toNat), .ref (ra 10), .ref (ra 11), .ref (ra 12), .int (nI (rc + 1)), .int (nI rf), .int rw], aB E (ra 0) 900 tp, aL E (ra 2) 6 kwd, aL E (ra 10) 18 (vp_updL nms rc rv), aN E (ra 11) 18 (upN nso rc 3), aN E (ra 12) 18 (upN nnu rc (cy 5)), ob (ra 3) 0 [.int (nI (cy 0)), .int (nI (cy 1)), .int (nI (cy 2)), .int (nI (cy 3)), .int (nI (cy 4)), .int (nI (cy 5)), .int (nI (cy 6)), .int (nI (cy 7)), .ref (ca 0), .ref (ca 1), .ref (ca 2), .ref (ca 3), .ref (ca 4), .ref (ca 5), .ref (ca 6), .ref (ca 7), .ref (ca 8), .ref (ca 9), .ref (ca 10), .ref (ca 11)], aN E (ca 0) 8 f0, aN E (ca 1) 8 f1, aI E (ca 2) 8 f2, aN E (ca 3) 8 f3, aN E (ca 4) 8 f4, aM E (ca 5) 8 Fs, aM E (ca 6) 8 Ft]) rfl rfl rfl ?_
        have hQ_20 : p1_20 ≤ n1_20 := hO_20.2.1
        refine v_ifN_eq X dX4_readClause_23 (tgt := 35) (by decide) (by decide) (fun h23 => ?_) (fun h23 => ?_)
        · exfalso; omega
        · refine v_aload_n X dX4_readClause_26 rfl 0 rfl ?_
          refine v_iconst X dX4_readClause_27 (v := nI 1) (by decide) ?_
          refine v_iconst X dX4_readClause_28 (v := nI 0) (by decide) ?_
          refine v_wr X (rn_V X k_X4_passName ml_X4_200 dX4_readClause_29 (c_X4_passNameA l E hr ra fd re k1_20 p1_20 n1_20 v1_20 rh (rc + 1) rf rw tp kwd (vp_updL nms rc rv) (upN nso rc 3) (upN nnu rc (cy 5)) 1 0 (by first | assumption | omega) (by first | assumption | omega) (by omega) (by decide) (hns2) (hnn2) (by decide)) rfl 0 rfl rfl (by decide) (by decide) (by omega) (by omega) (Nat.le_of_ble_eq_true rfl)) [0, 1, 2, 3, 4, 5] rfl rfl (fun r w1 hpo => ?_)
          rcases hpo with ⟨x_29, k1_29, p1_29, n1_29, v1_29, hW_29, hx_29, h8_29, hu_29, hO_29, hP_29, rfl, rfl⟩ | ⟨f_29, hW_29, rfl, rfl⟩
          · refine ⟨rfl, ?_⟩
            refine V.cast (st' := [.int (nI x_29)]) (ws' := [ob hr 4 [.ref (ra 0), .int (nI fd), .ref (ra 2), .ref (ra 3), .int (nI re), .int (nI k1_29), .int (nI p1_29), .int (nI n1_29), .long v1_29, .int (nI (rh).toNat), .ref (ra 10), .ref (ra 11), .ref (ra 12), .int (nI (rc + 1)), .int (nI rf), .int rw], aB E (ra 0) 900 tp, aL E (ra 2) 6 kwd, aL E (ra 10) 18 (vp_updL nms rc rv), aN E (ra 11) 18 (upN nso rc 3), aN E (ra 12) 18 (upN nnu rc (cy 5)), ob (ra 3) 0 [.int (nI (cy 0)), .int (nI (cy 1)), .int (nI (cy 2)), .int (nI (cy 3)), .int (nI (cy 4)), .int (nI (cy 5)), .int (nI (cy 6)), .int (nI (cy 7)), .ref (ca 0), .ref (ca 1), .ref (ca 2), .ref (ca 3), .ref (ca 4), .ref (ca 5), .ref (ca 6), .ref (ca 7), .ref (ca 8), .ref (ca 9), .ref (ca 10), .ref (ca 11)], aN E (ca 0) 8 f0, aN E (ca 1) 8 f1, aI E (ca 2) 8 f2, aN E (ca 3) 8 f3, aN E (ca 4) 8 f4, aM E (ca 5) 8 Fs, aM E (ca 6) 8 Ft]) rfl rfl rfl ?_
            have hQ_29 : p1_29 ≤ n1_29 := hO_29.2.1
            refine v_goto X dX4_readClause_32 (tgt := 36) (by decide) ?_
            refine v_istore_n X dX4_readClause_36 rfl (by decide) (lv' := [(1, .int (nI x_29)), (0, .ref hr)]) rfl ?_
            refine v_iload_n X dX4_readClause_37 rfl 0 rfl ?_
            refine v_iconst X dX4_readClause_38 (v := (-1)) (by decide) ?_
            refine v_icmp_ne X dX4_readClause_39 (tgt := 44) (by decide) (fun h39 => ?_) (fun h39 => ?_)
            · refine v_aload_n X dX4_readClause_44 rfl 1 rfl ?_
              refine v_ldcS X dX4_readClause_45 (i := 10) (tx := "ink") (by decide) ?_
              refine v_wr X (rn_V X k_X4_passesWord ml_X4_178 dX4_readClause_47 (c_X4_passesWordA l E hr ra fd re k1_29 p1_29 n1_29 v1_29 rh (rc + 1) rf rw tp 10 (by decide) (by first | assumption | omega) (by first | assumption | omega)) rfl 0 rfl rfl (by decide) (by decide) (by omega) (by omega) (Nat.le_of_ble_eq_true rfl)) [0, 1] rfl rfl (fun r w1 hpo => ?_)
              rcases hpo with ⟨k1_47, p1_47, n1_47, v1_47, hW_47, hO_47, hP_47, rfl, rfl⟩ | ⟨hW_47, rfl, rfl⟩
              · refine ⟨rfl, ?_⟩
                refine V.cast (st' := [.int (nI 1)]) (ws' := [ob hr 4 [.ref (ra 0), .int (nI fd), .ref (ra 2), .ref (ra 3), .int (nI re), .int (nI k1_47), .int (nI p1_47), .int (nI n1_47), .long v1_47, .int (nI (rh).toNat), .ref (ra 10), .ref (ra 11), .ref (ra 12), .int (nI (rc + 1)), .int (nI rf), .int rw], aB E (ra 0) 900 tp, aL E (ra 2) 6 kwd, aL E (ra 10) 18 (vp_updL nms rc rv), aN E (ra 11) 18 (upN nso rc 3), aN E (ra 12) 18 (upN nnu rc (cy 5)), ob (ra 3) 0 [.int (nI (cy 0)), .int (nI (cy 1)), .int (nI (cy 2)), .int (nI (cy 3)), .int (nI (cy 4)), .int (nI (cy 5)), .int (nI (cy 6)), .int (nI (cy 7)), .ref (ca 0), .ref (ca 1), .ref (ca 2), .ref (ca 3), .ref (ca 4), .ref (ca 5), .ref (ca 6), .ref (ca 7), .ref (ca 8), .ref (ca 9), .ref (ca 10), .ref (ca 11)], aN E (ca 0) 8 f0, aN E (ca 1) 8 f1, aI E (ca 2) 8 f2, aN E (ca 3) 8 f3, aN E (ca 4) 8 f4, aM E (ca 5) 8 Fs, aM E (ca 6) 8 Ft]) rfl rfl rfl ?_
                have hQ_47 : p1_47 ≤ n1_47 := hO_47.2.1
                refine v_ifN_eq X dX4_readClause_50 (tgt := 63) (by decide) (by decide) (fun h50 => ?_) (fun h50 => ?_)
                · exfalso; omega
                · refine v_aload_n X dX4_readClause_53 rfl 1 rfl ?_
                  refine v_iconst X dX4_readClause_54 (v := nI 1) (by decide) ?_
                  refine v_bipush X dX4_readClause_55 (v := nI 40) (by decide) ?_
                  refine v_wr X (rn_V X k_X4_passWhole ml_X4_181 dX4_readClause_57 (c_X4_passWholeA l E hr ra fd re k1_47 p1_47 n1_47 v1_47 rh (rc + 1) rf rw tp 1 40 (by first | assumption | omega) (by first | assumption | omega) (by decide) (by decide)) rfl 0 rfl rfl (by decide) (by decide) (by omega) (by omega) (Nat.le_of_ble_eq_true rfl)) [0, 1] rfl rfl (fun r w1 hpo => ?_)
                  rcases hpo with ⟨x_57, k1_57, p1_57, n1_57, v1_57, hW_57, hx_57, hl_57, hO_57, hP_57, rfl, rfl⟩ | ⟨f_57, hW_57, rfl, rfl⟩
                  · refine ⟨rfl, ?_⟩
                    refine V.cast (st' := [.int (nI x_57)]) (ws' := [ob hr 4 [.ref (ra 0), .int (nI fd), .ref (ra 2), .ref (ra 3), .int (nI re), .int (nI k1_57), .int (nI p1_57), .int (nI n1_57), .long v1_57, .int (nI (rh).toNat), .ref (ra 10), .ref (ra 11), .ref (ra 12), .int (nI (rc + 1)), .int (nI rf), .int rw], aB E (ra 0) 900 tp, aL E (ra 2) 6 kwd, aL E (ra 10) 18 (vp_updL nms rc rv), aN E (ra 11) 18 (upN nso rc 3), aN E (ra 12) 18 (upN nnu rc (cy 5)), ob (ra 3) 0 [.int (nI (cy 0)), .int (nI (cy 1)), .int (nI (cy 2)), .int (nI (cy 3)), .int (nI (cy 4)), .int (nI (cy 5)), .int (nI (cy 6)), .int (nI (cy 7)), .ref (ca 0), .ref (ca 1), .ref (ca 2), .ref (ca 3), .ref (ca 4), .ref (ca 5), .ref (ca 6), .ref (ca 7), .ref (ca 8), .ref (ca 9), .ref (ca 10), .ref (ca 11)], aN E (ca 0) 8 f0, aN E (ca 1) 8 f1, aI E (ca 2) 8 f2, aN E (ca 3) 8 f3, aN E (ca 4) 8 f4, aM E (ca 5) 8 Fs, aM E (ca 6) 8 Ft]) rfl rfl rfl ?_
                    have hQ_57 : p1_57 ≤ n1_57 := hO_57.2.1
                    refine v_goto X dX4_readClause_60 (tgt := 64) (by decide) ?_
                    refine v_istore_n X dX4_readClause_64 rfl (by decide) (lv' := [(2, .int (nI x_57)), (1, .int (nI x_29)), (0, .ref hr)]) rfl ?_
                    refine v_iload_n X dX4_readClause_65 rfl 0 rfl ?_
                    refine v_iconst X dX4_readClause_66 (v := (-1)) (by decide) ?_
                    refine v_icmp_ne X dX4_readClause_67 (tgt := 72) (by decide) (fun h67 => ?_) (fun h67 => ?_)
                    · refine v_aload_n X dX4_readClause_72 rfl 2 rfl ?_
                      refine v_roI1 X (rn_V X k_X4_formHere ml_X4_205 dX4_readClause_73 (c_X4_formHere l E hr ra fd re k1_57 p1_57 n1_57 v1_57 rh (rc + 1) rf rw (hO_57.1)) rfl 0 rfl rfl (by decide) (by decide) (by omega) (by omega) (Nat.le_of_ble_eq_true rfl)) [0] rfl rfl ?_
                      refine v_istore_n X dX4_readClause_76 rfl (by decide) (lv' := [(3, .int (optJ (fst_ (foP k1_57 v1_57) 6 0))), (2, .int (nI x_57)), (1, .int (nI x_29)), (0, .ref hr)]) rfl ?_
                      rcases hF : fst_ (foP k1_57 v1_57) 6 0 with _ | q
                      · refine V.cast (lv' := [(3, .int (-1)), (2, .int (nI x_57)), (1, .int (nI x_29)), (0, .ref hr)]) rfl rfl rfl ?_
                        refine v_aload_n X dX4_readClause_77 rfl 3 rfl ?_
                        refine v_iload_n X dX4_readClause_78 rfl 0 rfl ?_
                        refine v_iconst X dX4_readClause_79 (v := (-1)) (by decide) ?_
                        refine v_icmp_eq X dX4_readClause_80 (tgt := 87) (by decide) (fun h80 => ?_) (fun h80 => ?_)
                        · refine v_iconst X dX4_readClause_87 (v := nI 0) (by decide) ?_
                          refine v_wr X (rn_V X k_X4_passes ml_X4_103 dX4_readClause_88 (c_X4_passesA l E hr ra fd re k1_57 p1_57 n1_57 v1_57 rh (rc + 1) rf rw tp false (by first | assumption | omega) (by first | assumption | omega)) rfl 0 rfl rfl (by decide) (by decide) (by omega) (by omega) (Nat.le_of_ble_eq_true rfl)) [0, 1] rfl rfl (fun r w1 hpo => ?_)
                          rcases hpo with ⟨k1_88, p1_88, n1_88, v1_88, hB_88, hA_88, hO_88, hP_88, rfl, rfl⟩ | ⟨hB_88, rfl, rfl⟩
                          · exact absurd hB_88 (by decide)
                          · refine ⟨rfl, ?_⟩
                            refine V.cast (st' := [.int (nI 0)]) (ws' := [ob hr 4 [.ref (ra 0), .int (nI fd), .ref (ra 2), .ref (ra 3), .int (nI re), .int (nI k1_57), .int (nI p1_57), .int (nI n1_57), .long v1_57, .int (nI (rh).toNat), .ref (ra 10), .ref (ra 11), .ref (ra 12), .int (nI (rc + 1)), .int (nI 1), .int (nI p1_57)], aB E (ra 0) 900 tp, aL E (ra 2) 6 kwd, aL E (ra 10) 18 (vp_updL nms rc rv), aN E (ra 11) 18 (upN nso rc 3), aN E (ra 12) 18 (upN nnu rc (cy 5)), ob (ra 3) 0 [.int (nI (cy 0)), .int (nI (cy 1)), .int (nI (cy 2)), .int (nI (cy 3)), .int (nI (cy 4)), .int (nI (cy 5)), .int (nI (cy 6)), .int (nI (cy 7)), .ref (ca 0), .ref (ca 1), .ref (ca 2), .ref (ca 3), .ref (ca 4), .ref (ca 5), .ref (ca 6), .ref (ca 7), .ref (ca 8), .ref (ca 9), .ref (ca 10), .ref (ca 11)], aN E (ca 0) 8 f0, aN E (ca 1) 8 f1, aI E (ca 2) 8 f2, aN E (ca 3) 8 f3, aN E (ca 4) 8 f4, aM E (ca 5) 8 Fs, aM E (ca 6) 8 Ft]) rfl rfl rfl ?_
                            refine v_ifN_eq X dX4_readClause_91 (tgt := 103) (by decide) (by decide) (fun h91 => ?_) (fun h91 => ?_)
                            · refine v_iconst X dX4_readClause_103 (v := (-1)) (by decide) ?_
                              refine v_istore X dX4_readClause_104 (by decide) (lv' := [(4, .int (-1)), (3, .int (-1)), (2, .int (nI x_57)), (1, .int (nI x_29)), (0, .ref hr)]) rfl ?_
                              refine v_iload X dX4_readClause_106 0 rfl ?_
                              refine v_iconst X dX4_readClause_108 (v := (-1)) (by decide) ?_
                              refine v_icmp_ne X dX4_readClause_109 (tgt := 114) (by decide) (fun h109 => ?_) (fun h109 => ?_)
                              · exact absurd rfl h109
                              · refine v_iconst X dX4_readClause_112 (v := nI 0) (by decide) ?_
                                exact v_zret X Y dX4_readClause_113 (by decide) (Or.inr ⟨1, p1_57, k1_57, p1_57, n1_57, v1_57, rc + 1, (vp_updL nms rc rv), (upN nso rc 3), (upN nnu rc (cy 5)), (by unfold clauseF; rw [hW_9, sb_k, hW_20, sb_k, hW_29, sb_k, hW_47, sb_k, hW_57, sb_k, fo_no hF, sb_e]), rfl, rfl⟩) (by omega) (by omega)
                            · exfalso; omega
                        · exact absurd rfl h80
                      · have hq6 : q < 6 := by have := (fst_lt _ _ _ hF).1; omega
                        refine V.cast (lv' := [(3, .int (nI q)), (2, .int (nI x_57)), (1, .int (nI x_29)), (0, .ref hr)]) rfl rfl rfl ?_
                        refine v_aload_n X dX4_readClause_77 rfl 3 rfl ?_
                        refine v_iload_n X dX4_readClause_78 rfl 0 rfl ?_
                        refine v_iconst X dX4_readClause_79 (v := (-1)) (by decide) ?_
                        refine v_icmp_eq X dX4_readClause_80 (tgt := 87) (by decide) (fun h80 => ?_) (fun h80 => ?_)
                        · exact (nm1 h80 (by omega)).elim
                        · refine v_iconst X dX4_readClause_83 (v := nI 1) (by decide) ?_
                          refine v_goto X dX4_readClause_84 (tgt := 88) (by decide) ?_
                          refine v_wr X (rn_V X k_X4_passes ml_X4_103 dX4_readClause_88 (c_X4_passesA l E hr ra fd re k1_57 p1_57 n1_57 v1_57 rh (rc + 1) rf rw tp true (by first | assumption | omega) (by first | assumption | omega)) rfl 0 rfl rfl (by decide) (by decide) (by omega) (by omega) (Nat.le_of_ble_eq_true rfl)) [0, 1] rfl rfl (fun r w1 hpo => ?_)
                          rcases hpo with ⟨k1_88, p1_88, n1_88, v1_88, hB_88, hA_88, hO_88, hP_88, rfl, rfl⟩ | ⟨hB_88, rfl, rfl⟩
                          · refine ⟨rfl, ?_⟩
                            refine V.cast (st' := [.int (nI 1)]) (ws' := [ob hr 4 [.ref (ra 0), .int (nI fd), .ref (ra 2), .ref (ra 3), .int (nI re), .int (nI k1_88), .int (nI p1_88), .int (nI n1_88), .long v1_88, .int (nI (rh).toNat), .ref (ra 10), .ref (ra 11), .ref (ra 12), .int (nI (rc + 1)), .int (nI rf), .int rw], aB E (ra 0) 900 tp, aL E (ra 2) 6 kwd, aL E (ra 10) 18 (vp_updL nms rc rv), aN E (ra 11) 18 (upN nso rc 3), aN E (ra 12) 18 (upN nnu rc (cy 5)), ob (ra 3) 0 [.int (nI (cy 0)), .int (nI (cy 1)), .int (nI (cy 2)), .int (nI (cy 3)), .int (nI (cy 4)), .int (nI (cy 5)), .int (nI (cy 6)), .int (nI (cy 7)), .ref (ca 0), .ref (ca 1), .ref (ca 2), .ref (ca 3), .ref (ca 4), .ref (ca 5), .ref (ca 6), .ref (ca 7), .ref (ca 8), .ref (ca 9), .ref (ca 10), .ref (ca 11)], aN E (ca 0) 8 f0, aN E (ca 1) 8 f1, aI E (ca 2) 8 f2, aN E (ca 3) 8 f3, aN E (ca 4) 8 f4, aM E (ca 5) 8 Fs, aM E (ca 6) 8 Ft]) rfl rfl rfl ?_
                            have hQ_88 : p1_88 ≤ n1_88 := hO_88.2.1
                            refine v_ifN_eq X dX4_readClause_91 (tgt := 103) (by decide) (by decide) (fun h91 => ?_) (fun h91 => ?_)
                            · exfalso; omega
                            · refine v_aload_n X dX4_readClause_94 rfl 3 rfl ?_
                              refine v_iconst X dX4_readClause_95 (v := nI 2) (by decide) ?_
                              refine v_iconst X dX4_readClause_96 (v := nI 0) (by decide) ?_
                              refine v_wr X (rn_V X k_X4_passName ml_X4_200 dX4_readClause_97 (c_X4_passNameA l E hr ra fd re k1_88 p1_88 n1_88 v1_88 rh (rc + 1) rf rw tp kwd (vp_updL nms rc rv) (upN nso rc 3) (upN nnu rc (cy 5)) 2 0 (by first | assumption | omega) (by first | assumption | omega) (by omega) (by decide) (hns2) (hnn2) (by decide)) rfl 0 rfl rfl (by decide) (by decide) (by omega) (by omega) (Nat.le_of_ble_eq_true rfl)) [0, 1, 2, 3, 4, 5] rfl rfl (fun r w1 hpo => ?_)
                              rcases hpo with ⟨x_97, k1_97, p1_97, n1_97, v1_97, hW_97, hx_97, h8_97, hu_97, hO_97, hP_97, rfl, rfl⟩ | ⟨f_97, hW_97, rfl, rfl⟩
                              · refine ⟨rfl, ?_⟩
                                refine V.cast (st' := [.int (nI x_97)]) (ws' := [ob hr 4 [.ref (ra 0), .int (nI fd), .ref (ra 2), .ref (ra 3), .int (nI re), .int (nI k1_97), .int (nI p1_97), .int (nI n1_97), .long v1_97, .int (nI (rh).toNat), .ref (ra 10), .ref (ra 11), .ref (ra 12), .int (nI (rc + 1)), .int (nI rf), .int rw], aB E (ra 0) 900 tp, aL E (ra 2) 6 kwd, aL E (ra 10) 18 (vp_updL nms rc rv), aN E (ra 11) 18 (upN nso rc 3), aN E (ra 12) 18 (upN nnu rc (cy 5)), ob (ra 3) 0 [.int (nI (cy 0)), .int (nI (cy 1)), .int (nI (cy 2)), .int (nI (cy 3)), .int (nI (cy 4)), .int (nI (cy 5)), .int (nI (cy 6)), .int (nI (cy 7)), .ref (ca 0), .ref (ca 1), .ref (ca 2), .ref (ca 3), .ref (ca 4), .ref (ca 5), .ref (ca 6), .ref (ca 7), .ref (ca 8), .ref (ca 9), .ref (ca 10), .ref (ca 11)], aN E (ca 0) 8 f0, aN E (ca 1) 8 f1, aI E (ca 2) 8 f2, aN E (ca 3) 8 f3, aN E (ca 4) 8 f4, aM E (ca 5) 8 Fs, aM E (ca 6) 8 Ft]) rfl rfl rfl ?_
                                have hQ_97 : p1_97 ≤ n1_97 := hO_97.2.1
                                refine v_goto X dX4_readClause_100 (tgt := 104) (by decide) ?_
                                refine v_istore X dX4_readClause_104 (by decide) (lv' := [(4, .int (nI x_97)), (3, .int (nI q)), (2, .int (nI x_57)), (1, .int (nI x_29)), (0, .ref hr)]) rfl ?_
                                refine v_iload X dX4_readClause_106 0 rfl ?_
                                refine v_iconst X dX4_readClause_108 (v := (-1)) (by decide) ?_
                                refine v_icmp_ne X dX4_readClause_109 (tgt := 114) (by decide) (fun h109 => ?_) (fun h109 => ?_)
                                · refine v_iload_n X dX4_readClause_114 rfl 1 rfl ?_
                                  refine v_ifN_eq X dX4_readClause_115 (tgt := 123) (by decide) (by omega) (fun h115 => ?_) (fun h115 => ?_)
                                  · refine v_iconst X dX4_readClause_123 (v := nI 1) (by decide) ?_
                                    refine v_goto X dX4_readClause_124 (tgt := 128) (by decide) ?_
                                    refine v_istore X dX4_readClause_128 (by decide) (lv' := [(5, .int (nI 1)), (4, .int (nI x_97)), (3, .int (nI q)), (2, .int (nI x_57)), (1, .int (nI x_29)), (0, .ref hr)]) rfl ?_
                                    refine v_iload X dX4_readClause_130 0 rfl ?_
                                    refine v_ifN_eq X dX4_readClause_132 (tgt := 140) (by decide) (by decide) (fun h132 => ?_) (fun h132 => ?_)
                                    · exfalso; omega
                                    · refine v_bipush X dX4_readClause_135 (v := (-2)) (by decide) ?_
                                      refine v_goto X dX4_readClause_137 (tgt := 149) (by decide) ?_
                                      refine v_istore X dX4_readClause_149 (by decide) (lv' := [(6, .int (-2)), (5, .int (nI 1)), (4, .int (nI x_97)), (3, .int (nI q)), (2, .int (nI x_57)), (1, .int (nI x_29)), (0, .ref hr)]) rfl ?_
                                      refine v_iload X dX4_readClause_151 0 rfl ?_
                                      refine v_iconst X dX4_readClause_153 (v := (-1)) (by decide) ?_
                                      refine v_icmp_ne X dX4_readClause_154 (tgt := 159) (by decide) (fun h154 => ?_) (fun h154 => ?_)
                                      · refine v_aload_n X dX4_readClause_159 rfl 6 rfl ?_
                                        refine v_get X kcX4 fl_X4_48 dX4_readClause_160 0 rfl rfl ?_
                                        refine v_iload_n X dX4_readClause_163 rfl 3 rfl ?_
                                        refine v_iload X dX4_readClause_164 2 rfl ?_
                                        refine v_iload X dX4_readClause_166 0 rfl ?_
                                        refine v_iload_n X dX4_readClause_168 rfl 5 rfl ?_
                                        refine v_iload_n X dX4_readClause_169 rfl 4 rfl ?_
                                        refine v_wrV1 X (rn_VN X k_X0_addClause ml_X4_208 dX4_readClause_170 (c_X0_addClause l E (ra 3) cy ca f0 f1 f2 f3 f4 Fs Ft q x_97 (-2) x_29 x_57 (hc5) (by first | assumption | omega)) rfl 0 rfl rfl (by decide) (by decide) (by omega) (by omega) (Nat.le_of_ble_eq_true rfl)) [6, 7, 8, 9, 10, 11, 12, 13] rfl rfl (ws' := [ob hr 4 [.ref (ra 0), .int (nI fd), .ref (ra 2), .ref (ra 3), .int (nI re), .int (nI k1_97), .int (nI p1_97), .int (nI n1_97), .long v1_97, .int (nI (rh).toNat), .ref (ra 10), .ref (ra 11), .ref (ra 12), .int (nI (rc + 1)), .int (nI rf), .int rw], aB E (ra 0) 900 tp, aL E (ra 2) 6 kwd, aL E (ra 10) 18 (vp_updL nms rc rv), aN E (ra 11) 18 (upN nso rc 3), aN E (ra 12) 18 (upN nnu rc (cy 5)), ob (ra 3) 0 [.int (nI ((upN cy 5 (cy 5 + 1)) 0)), .int (nI ((upN cy 5 (cy 5 + 1)) 1)), .int (nI ((upN cy 5 (cy 5 + 1)) 2)), .int (nI ((upN cy 5 (cy 5 + 1)) 3)), .int (nI ((upN cy 5 (cy 5 + 1)) 4)), .int (nI ((upN cy 5 (cy 5 + 1)) 5)), .int (nI ((upN cy 5 (cy 5 + 1)) 6)), .int (nI ((upN cy 5 (cy 5 + 1)) 7)), .ref (ca 0), .ref (ca 1), .ref (ca 2), .ref (ca 3), .ref (ca 4), .ref (ca 5), .ref (ca 6), .ref (ca 7), .ref (ca 8), .ref (ca 9), .ref (ca 10), .ref (ca 11)], aN E (ca 0) 8 (upN f0 (cy 5) q), aN E (ca 1) 8 (upN f1 (cy 5) x_97), aI E (ca 2) 8 (upd f2 (cy 5) (-2)), aN E (ca 3) 8 (upN f3 (cy 5) x_29), aN E (ca 4) 8 (upN f4 (cy 5) x_57), aM E (ca 5) 8 (upN Fs (cy 5) (strN q (swI (nI x_97)) (swI (-2)))), aM E (ca 6) 8 (upN Ft (cy 5) (turN q (swI (nI x_97)) (swI (-2))))]) rfl rfl ?_
                                        refine v_iconst X dX4_readClause_173 (v := nI 1) (by decide) ?_
                                        exact v_zret X Y dX4_readClause_174 (by decide) (Or.inl ⟨x_29, x_57, q, x_97, (-2), k1_97, p1_97, n1_97, v1_97, (by unfold clauseF; rw [hW_9, sb_k, hW_20, sb_k, hW_29, sb_k, hW_47, sb_k, hW_57, sb_k, fo_ok hF hA_88, sb_k, hW_97, sb_k, if_pos (by omega)]), (by assumption), (by omega), (hc_9), (by omega), (by omega), (by omega), (hx_29), (hx_97), (Or.inl ⟨rfl, by omega⟩), rfl, rfl⟩) (by omega) (by omega)
                                      · exact absurd h154 (by decide)
                                  · refine v_iload_n X dX4_readClause_118 rfl 1 rfl ?_
                                    refine v_iconst X dX4_readClause_119 (v := nI 1) (by decide) ?_
                                    refine v_icmpN_ne X dX4_readClause_120 (tgt := 127) (by decide) (by omega) (by decide) (fun h120 => ?_) (fun h120 => ?_)
                                    · refine v_iconst X dX4_readClause_127 (v := nI 0) (by decide) ?_
                                      refine v_istore X dX4_readClause_128 (by decide) (lv' := [(5, .int (nI 0)), (4, .int (nI x_97)), (3, .int (nI q)), (2, .int (nI x_57)), (1, .int (nI x_29)), (0, .ref hr)]) rfl ?_
                                      refine v_iload X dX4_readClause_130 0 rfl ?_
                                      refine v_ifN_eq X dX4_readClause_132 (tgt := 140) (by decide) (by decide) (fun h132 => ?_) (fun h132 => ?_)
                                      · refine v_aload_n X dX4_readClause_140 rfl 5 rfl ?_
                                        refine v_iconst X dX4_readClause_141 (v := nI 2) (by decide) ?_
                                        refine v_iconst X dX4_readClause_142 (v := nI 1) (by decide) ?_
                                        refine v_iload X dX4_readClause_143 1 rfl ?_
                                        refine v_ishl X dX4_readClause_145 ?_
                                        refine v_eqi (x' := nI (2 ^ x_97)) (nI_shl1 (by omega)) ?_
                                        refine v_wr X (rn_V X k_X4_passName ml_X4_200 dX4_readClause_146 (c_X4_passNameA l E hr ra fd re k1_97 p1_97 n1_97 v1_97 rh (rc + 1) rf rw tp kwd (vp_updL nms rc rv) (upN nso rc 3) (upN nnu rc (cy 5)) 2 (2 ^ x_97) (by first | assumption | omega) (by first | assumption | omega) (by omega) (by decide) (hns2) (hnn2) (Nat.pow_lt_pow_right (n := 8) (by decide) h8_97)) rfl 0 rfl rfl (by decide) (by decide) (by omega) (by omega) (Nat.le_of_ble_eq_true rfl)) [0, 1, 2, 3, 4, 5] rfl rfl (fun r w1 hpo => ?_)
                                        rcases hpo with ⟨x_146, k1_146, p1_146, n1_146, v1_146, hW_146, hx_146, h8_146, hu_146, hO_146, hP_146, rfl, rfl⟩ | ⟨f_146, hW_146, rfl, rfl⟩
                                        · refine ⟨rfl, ?_⟩
                                          refine V.cast (st' := [.int (nI x_146)]) (ws' := [ob hr 4 [.ref (ra 0), .int (nI fd), .ref (ra 2), .ref (ra 3), .int (nI re), .int (nI k1_146), .int (nI p1_146), .int (nI n1_146), .long v1_146, .int (nI (rh).toNat), .ref (ra 10), .ref (ra 11), .ref (ra 12), .int (nI (rc + 1)), .int (nI rf), .int rw], aB E (ra 0) 900 tp, aL E (ra 2) 6 kwd, aL E (ra 10) 18 (vp_updL nms rc rv), aN E (ra 11) 18 (upN nso rc 3), aN E (ra 12) 18 (upN nnu rc (cy 5)), ob (ra 3) 0 [.int (nI (cy 0)), .int (nI (cy 1)), .int (nI (cy 2)), .int (nI (cy 3)), .int (nI (cy 4)), .int (nI (cy 5)), .int (nI (cy 6)), .int (nI (cy 7)), .ref (ca 0), .ref (ca 1), .ref (ca 2), .ref (ca 3), .ref (ca 4), .ref (ca 5), .ref (ca 6), .ref (ca 7), .ref (ca 8), .ref (ca 9), .ref (ca 10), .ref (ca 11)], aN E (ca 0) 8 f0, aN E (ca 1) 8 f1, aI E (ca 2) 8 f2, aN E (ca 3) 8 f3, aN E (ca 4) 8 f4, aM E (ca 5) 8 Fs, aM E (ca 6) 8 Ft]) rfl rfl rfl ?_
                                          have hQ_146 : p1_146 ≤ n1_146 := hO_146.2.1
                                          refine v_istore X dX4_readClause_149 (by decide) (lv' := [(6, .int (nI x_146)), (5, .int (nI 0)), (4, .int (nI x_97)), (3, .int (nI q)), (2, .int (nI x_57)), (1, .int (nI x_29)), (0, .ref hr)]) rfl ?_
                                          refine v_iload X dX4_readClause_151 0 rfl ?_
                                          refine v_iconst X dX4_readClause_153 (v := (-1)) (by decide) ?_
                                          refine v_icmp_ne X dX4_readClause_154 (tgt := 159) (by decide) (fun h154 => ?_) (fun h154 => ?_)
                                          · refine v_aload_n X dX4_readClause_159 rfl 6 rfl ?_
                                            refine v_get X kcX4 fl_X4_48 dX4_readClause_160 0 rfl rfl ?_
                                            refine v_iload_n X dX4_readClause_163 rfl 3 rfl ?_
                                            refine v_iload X dX4_readClause_164 2 rfl ?_
                                            refine v_iload X dX4_readClause_166 0 rfl ?_
                                            refine v_iload_n X dX4_readClause_168 rfl 5 rfl ?_
                                            refine v_iload_n X dX4_readClause_169 rfl 4 rfl ?_
                                            refine v_wrV1 X (rn_VN X k_X0_addClause ml_X4_208 dX4_readClause_170 (c_X0_addClause l E (ra 3) cy ca f0 f1 f2 f3 f4 Fs Ft q x_97 (nI x_146) x_29 x_57 (hc5) (by first | assumption | omega)) rfl 0 rfl rfl (by decide) (by decide) (by omega) (by omega) (Nat.le_of_ble_eq_true rfl)) [6, 7, 8, 9, 10, 11, 12, 13] rfl rfl (ws' := [ob hr 4 [.ref (ra 0), .int (nI fd), .ref (ra 2), .ref (ra 3), .int (nI re), .int (nI k1_146), .int (nI p1_146), .int (nI n1_146), .long v1_146, .int (nI (rh).toNat), .ref (ra 10), .ref (ra 11), .ref (ra 12), .int (nI (rc + 1)), .int (nI rf), .int rw], aB E (ra 0) 900 tp, aL E (ra 2) 6 kwd, aL E (ra 10) 18 (vp_updL nms rc rv), aN E (ra 11) 18 (upN nso rc 3), aN E (ra 12) 18 (upN nnu rc (cy 5)), ob (ra 3) 0 [.int (nI ((upN cy 5 (cy 5 + 1)) 0)), .int (nI ((upN cy 5 (cy 5 + 1)) 1)), .int (nI ((upN cy 5 (cy 5 + 1)) 2)), .int (nI ((upN cy 5 (cy 5 + 1)) 3)), .int (nI ((upN cy 5 (cy 5 + 1)) 4)), .int (nI ((upN cy 5 (cy 5 + 1)) 5)), .int (nI ((upN cy 5 (cy 5 + 1)) 6)), .int (nI ((upN cy 5 (cy 5 + 1)) 7)), .ref (ca 0), .ref (ca 1), .ref (ca 2), .ref (ca 3), .ref (ca 4), .ref (ca 5), .ref (ca 6), .ref (ca 7), .ref (ca 8), .ref (ca 9), .ref (ca 10), .ref (ca 11)], aN E (ca 0) 8 (upN f0 (cy 5) q), aN E (ca 1) 8 (upN f1 (cy 5) x_97), aI E (ca 2) 8 (upd f2 (cy 5) (nI x_146)), aN E (ca 3) 8 (upN f3 (cy 5) x_29), aN E (ca 4) 8 (upN f4 (cy 5) x_57), aM E (ca 5) 8 (upN Fs (cy 5) (strN q (swI (nI x_97)) (swI (nI x_146)))), aM E (ca 6) 8 (upN Ft (cy 5) (turN q (swI (nI x_97)) (swI (nI x_146))))]) rfl rfl ?_
                                            refine v_iconst X dX4_readClause_173 (v := nI 1) (by decide) ?_
                                            exact v_zret X Y dX4_readClause_174 (by decide) (Or.inl ⟨x_29, x_57, q, x_97, nI x_146, k1_146, p1_146, n1_146, v1_146, (by unfold clauseF; rw [hW_9, sb_k, hW_20, sb_k, hW_29, sb_k, hW_47, sb_k, hW_57, sb_k, fo_ok hF hA_88, sb_k, hW_97, sb_k, if_neg (by omega), hW_146, sb_k]), (by assumption), (by omega), (hc_9), (by omega), (by omega), (by omega), (hx_29), (hx_97), (Or.inr ⟨by omega, x_146, rfl, fun e => absurd hu_146 (by rw [e, Nat.testBit_two_pow_self]; decide), hx_146⟩), rfl, rfl⟩) (by omega) (by omega)
                                          · exact (nm1 h154 (by omega)).elim
                                        · refine ⟨rfl, ?_⟩
                                          refine V.cast (st' := [.int (-1)]) (ws' := [ob hr 4 [.ref (ra 0), .int (nI fd), .ref (ra 2), .ref (ra 3), .int (nI re), .int (nI k1_97), .int (nI p1_97), .int (nI n1_97), .long v1_97, .int (nI (rh).toNat), .ref (ra 10), .ref (ra 11), .ref (ra 12), .int (nI (rc + 1)), .int (nI f_146), .int (nI p1_97)], aB E (ra 0) 900 tp, aL E (ra 2) 6 kwd, aL E (ra 10) 18 (vp_updL nms rc rv), aN E (ra 11) 18 (upN nso rc 3), aN E (ra 12) 18 (upN nnu rc (cy 5)), ob (ra 3) 0 [.int (nI (cy 0)), .int (nI (cy 1)), .int (nI (cy 2)), .int (nI (cy 3)), .int (nI (cy 4)), .int (nI (cy 5)), .int (nI (cy 6)), .int (nI (cy 7)), .ref (ca 0), .ref (ca 1), .ref (ca 2), .ref (ca 3), .ref (ca 4), .ref (ca 5), .ref (ca 6), .ref (ca 7), .ref (ca 8), .ref (ca 9), .ref (ca 10), .ref (ca 11)], aN E (ca 0) 8 f0, aN E (ca 1) 8 f1, aI E (ca 2) 8 f2, aN E (ca 3) 8 f3, aN E (ca 4) 8 f4, aM E (ca 5) 8 Fs, aM E (ca 6) 8 Ft]) rfl rfl rfl ?_
                                          refine v_istore X dX4_readClause_149 (by decide) (lv' := [(6, .int (-1)), (5, .int (nI 0)), (4, .int (nI x_97)), (3, .int (nI q)), (2, .int (nI x_57)), (1, .int (nI x_29)), (0, .ref hr)]) rfl ?_
                                          refine v_iload X dX4_readClause_151 0 rfl ?_
                                          refine v_iconst X dX4_readClause_153 (v := (-1)) (by decide) ?_
                                          refine v_icmp_ne X dX4_readClause_154 (tgt := 159) (by decide) (fun h154 => ?_) (fun h154 => ?_)
                                          · exact absurd rfl h154
                                          · refine v_iconst X dX4_readClause_157 (v := nI 0) (by decide) ?_
                                            exact v_zret X Y dX4_readClause_158 (by decide) (Or.inr ⟨f_146, p1_97, k1_97, p1_97, n1_97, v1_97, rc + 1, (vp_updL nms rc rv), (upN nso rc 3), (upN nnu rc (cy 5)), (by unfold clauseF; rw [hW_9, sb_k, hW_20, sb_k, hW_29, sb_k, hW_47, sb_k, hW_57, sb_k, fo_ok hF hA_88, sb_k, hW_97, sb_k, if_neg (by omega), hW_146, sb_e]), rfl, rfl⟩) (by omega) (by omega)
                                      · exfalso; omega
                                    · refine v_iconst X dX4_readClause_123 (v := nI 1) (by decide) ?_
                                      refine v_goto X dX4_readClause_124 (tgt := 128) (by decide) ?_
                                      refine v_istore X dX4_readClause_128 (by decide) (lv' := [(5, .int (nI 1)), (4, .int (nI x_97)), (3, .int (nI q)), (2, .int (nI x_57)), (1, .int (nI x_29)), (0, .ref hr)]) rfl ?_
                                      refine v_iload X dX4_readClause_130 0 rfl ?_
                                      refine v_ifN_eq X dX4_readClause_132 (tgt := 140) (by decide) (by decide) (fun h132 => ?_) (fun h132 => ?_)
                                      · exfalso; omega
                                      · refine v_bipush X dX4_readClause_135 (v := (-2)) (by decide) ?_
                                        refine v_goto X dX4_readClause_137 (tgt := 149) (by decide) ?_
                                        refine v_istore X dX4_readClause_149 (by decide) (lv' := [(6, .int (-2)), (5, .int (nI 1)), (4, .int (nI x_97)), (3, .int (nI q)), (2, .int (nI x_57)), (1, .int (nI x_29)), (0, .ref hr)]) rfl ?_
                                        refine v_iload X dX4_readClause_151 0 rfl ?_
                                        refine v_iconst X dX4_readClause_153 (v := (-1)) (by decide) ?_
                                        refine v_icmp_ne X dX4_readClause_154 (tgt := 159) (by decide) (fun h154 => ?_) (fun h154 => ?_)
                                        · refine v_aload_n X dX4_readClause_159 rfl 6 rfl ?_
                                          refine v_get X kcX4 fl_X4_48 dX4_readClause_160 0 rfl rfl ?_
                                          refine v_iload_n X dX4_readClause_163 rfl 3 rfl ?_
                                          refine v_iload X dX4_readClause_164 2 rfl ?_
                                          refine v_iload X dX4_readClause_166 0 rfl ?_
                                          refine v_iload_n X dX4_readClause_168 rfl 5 rfl ?_
                                          refine v_iload_n X dX4_readClause_169 rfl 4 rfl ?_
                                          refine v_wrV1 X (rn_VN X k_X0_addClause ml_X4_208 dX4_readClause_170 (c_X0_addClause l E (ra 3) cy ca f0 f1 f2 f3 f4 Fs Ft q x_97 (-2) x_29 x_57 (hc5) (by first | assumption | omega)) rfl 0 rfl rfl (by decide) (by decide) (by omega) (by omega) (Nat.le_of_ble_eq_true rfl)) [6, 7, 8, 9, 10, 11, 12, 13] rfl rfl (ws' := [ob hr 4 [.ref (ra 0), .int (nI fd), .ref (ra 2), .ref (ra 3), .int (nI re), .int (nI k1_97), .int (nI p1_97), .int (nI n1_97), .long v1_97, .int (nI (rh).toNat), .ref (ra 10), .ref (ra 11), .ref (ra 12), .int (nI (rc + 1)), .int (nI rf), .int rw], aB E (ra 0) 900 tp, aL E (ra 2) 6 kwd, aL E (ra 10) 18 (vp_updL nms rc rv), aN E (ra 11) 18 (upN nso rc 3), aN E (ra 12) 18 (upN nnu rc (cy 5)), ob (ra 3) 0 [.int (nI ((upN cy 5 (cy 5 + 1)) 0)), .int (nI ((upN cy 5 (cy 5 + 1)) 1)), .int (nI ((upN cy 5 (cy 5 + 1)) 2)), .int (nI ((upN cy 5 (cy 5 + 1)) 3)), .int (nI ((upN cy 5 (cy 5 + 1)) 4)), .int (nI ((upN cy 5 (cy 5 + 1)) 5)), .int (nI ((upN cy 5 (cy 5 + 1)) 6)), .int (nI ((upN cy 5 (cy 5 + 1)) 7)), .ref (ca 0), .ref (ca 1), .ref (ca 2), .ref (ca 3), .ref (ca 4), .ref (ca 5), .ref (ca 6), .ref (ca 7), .ref (ca 8), .ref (ca 9), .ref (ca 10), .ref (ca 11)], aN E (ca 0) 8 (upN f0 (cy 5) q), aN E (ca 1) 8 (upN f1 (cy 5) x_97), aI E (ca 2) 8 (upd f2 (cy 5) (-2)), aN E (ca 3) 8 (upN f3 (cy 5) x_29), aN E (ca 4) 8 (upN f4 (cy 5) x_57), aM E (ca 5) 8 (upN Fs (cy 5) (strN q (swI (nI x_97)) (swI (-2)))), aM E (ca 6) 8 (upN Ft (cy 5) (turN q (swI (nI x_97)) (swI (-2))))]) rfl rfl ?_
                                          refine v_iconst X dX4_readClause_173 (v := nI 1) (by decide) ?_
                                          exact v_zret X Y dX4_readClause_174 (by decide) (Or.inl ⟨x_29, x_57, q, x_97, (-2), k1_97, p1_97, n1_97, v1_97, (by unfold clauseF; rw [hW_9, sb_k, hW_20, sb_k, hW_29, sb_k, hW_47, sb_k, hW_57, sb_k, fo_ok hF hA_88, sb_k, hW_97, sb_k, if_pos (by omega)]), (by assumption), (by omega), (hc_9), (by omega), (by omega), (by omega), (hx_29), (hx_97), (Or.inl ⟨rfl, by omega⟩), rfl, rfl⟩) (by omega) (by omega)
                                        · exact absurd h154 (by decide)
                                · exact (nm1 h109 (by omega)).elim
                              · refine ⟨rfl, ?_⟩
                                refine V.cast (st' := [.int (-1)]) (ws' := [ob hr 4 [.ref (ra 0), .int (nI fd), .ref (ra 2), .ref (ra 3), .int (nI re), .int (nI k1_88), .int (nI p1_88), .int (nI n1_88), .long v1_88, .int (nI (rh).toNat), .ref (ra 10), .ref (ra 11), .ref (ra 12), .int (nI (rc + 1)), .int (nI f_97), .int (nI p1_88)], aB E (ra 0) 900 tp, aL E (ra 2) 6 kwd, aL E (ra 10) 18 (vp_updL nms rc rv), aN E (ra 11) 18 (upN nso rc 3), aN E (ra 12) 18 (upN nnu rc (cy 5)), ob (ra 3) 0 [.int (nI (cy 0)), .int (nI (cy 1)), .int (nI (cy 2)), .int (nI (cy 3)), .int (nI (cy 4)), .int (nI (cy 5)), .int (nI (cy 6)), .int (nI (cy 7)), .ref (ca 0), .ref (ca 1), .ref (ca 2), .ref (ca 3), .ref (ca 4), .ref (ca 5), .ref (ca 6), .ref (ca 7), .ref (ca 8), .ref (ca 9), .ref (ca 10), .ref (ca 11)], aN E (ca 0) 8 f0, aN E (ca 1) 8 f1, aI E (ca 2) 8 f2, aN E (ca 3) 8 f3, aN E (ca 4) 8 f4, aM E (ca 5) 8 Fs, aM E (ca 6) 8 Ft]) rfl rfl rfl ?_
                                refine v_goto X dX4_readClause_100 (tgt := 104) (by decide) ?_
                                refine v_istore X dX4_readClause_104 (by decide) (lv' := [(4, .int (-1)), (3, .int (nI q)), (2, .int (nI x_57)), (1, .int (nI x_29)), (0, .ref hr)]) rfl ?_
                                refine v_iload X dX4_readClause_106 0 rfl ?_
                                refine v_iconst X dX4_readClause_108 (v := (-1)) (by decide) ?_
                                refine v_icmp_ne X dX4_readClause_109 (tgt := 114) (by decide) (fun h109 => ?_) (fun h109 => ?_)
                                · exact absurd rfl h109
                                · refine v_iconst X dX4_readClause_112 (v := nI 0) (by decide) ?_
                                  exact v_zret X Y dX4_readClause_113 (by decide) (Or.inr ⟨f_97, p1_88, k1_88, p1_88, n1_88, v1_88, rc + 1, (vp_updL nms rc rv), (upN nso rc 3), (upN nnu rc (cy 5)), (by unfold clauseF; rw [hW_9, sb_k, hW_20, sb_k, hW_29, sb_k, hW_47, sb_k, hW_57, sb_k, fo_ok hF hA_88, sb_k, hW_97, sb_e]), rfl, rfl⟩) (by omega) (by omega)
                          · exact absurd hB_88 (by decide)
                    · exact (nm1 h67 (by omega)).elim
                  · refine ⟨rfl, ?_⟩
                    refine V.cast (st' := [.int (-1)]) (ws' := [ob hr 4 [.ref (ra 0), .int (nI fd), .ref (ra 2), .ref (ra 3), .int (nI re), .int (nI k1_47), .int (nI p1_47), .int (nI n1_47), .long v1_47, .int (nI (rh).toNat), .ref (ra 10), .ref (ra 11), .ref (ra 12), .int (nI (rc + 1)), .int (nI f_57), .int (nI p1_47)], aB E (ra 0) 900 tp, aL E (ra 2) 6 kwd, aL E (ra 10) 18 (vp_updL nms rc rv), aN E (ra 11) 18 (upN nso rc 3), aN E (ra 12) 18 (upN nnu rc (cy 5)), ob (ra 3) 0 [.int (nI (cy 0)), .int (nI (cy 1)), .int (nI (cy 2)), .int (nI (cy 3)), .int (nI (cy 4)), .int (nI (cy 5)), .int (nI (cy 6)), .int (nI (cy 7)), .ref (ca 0), .ref (ca 1), .ref (ca 2), .ref (ca 3), .ref (ca 4), .ref (ca 5), .ref (ca 6), .ref (ca 7), .ref (ca 8), .ref (ca 9), .ref (ca 10), .ref (ca 11)], aN E (ca 0) 8 f0, aN E (ca 1) 8 f1, aI E (ca 2) 8 f2, aN E (ca 3) 8 f3, aN E (ca 4) 8 f4, aM E (ca 5) 8 Fs, aM E (ca 6) 8 Ft]) rfl rfl rfl ?_
                    refine v_goto X dX4_readClause_60 (tgt := 64) (by decide) ?_
                    refine v_istore_n X dX4_readClause_64 rfl (by decide) (lv' := [(2, .int (-1)), (1, .int (nI x_29)), (0, .ref hr)]) rfl ?_
                    refine v_iload_n X dX4_readClause_65 rfl 0 rfl ?_
                    refine v_iconst X dX4_readClause_66 (v := (-1)) (by decide) ?_
                    refine v_icmp_ne X dX4_readClause_67 (tgt := 72) (by decide) (fun h67 => ?_) (fun h67 => ?_)
                    · exact absurd rfl h67
                    · refine v_iconst X dX4_readClause_70 (v := nI 0) (by decide) ?_
                      exact v_zret X Y dX4_readClause_71 (by decide) (Or.inr ⟨f_57, p1_47, k1_47, p1_47, n1_47, v1_47, rc + 1, (vp_updL nms rc rv), (upN nso rc 3), (upN nnu rc (cy 5)), (by unfold clauseF; rw [hW_9, sb_k, hW_20, sb_k, hW_29, sb_k, hW_47, sb_k, hW_57, sb_e]), rfl, rfl⟩) (by omega) (by omega)
              · refine ⟨rfl, ?_⟩
                refine V.cast (st' := [.int (nI 0)]) (ws' := [ob hr 4 [.ref (ra 0), .int (nI fd), .ref (ra 2), .ref (ra 3), .int (nI re), .int (nI k1_29), .int (nI p1_29), .int (nI n1_29), .long v1_29, .int (nI (rh).toNat), .ref (ra 10), .ref (ra 11), .ref (ra 12), .int (nI (rc + 1)), .int (nI 1), .int (nI p1_29)], aB E (ra 0) 900 tp, aL E (ra 2) 6 kwd, aL E (ra 10) 18 (vp_updL nms rc rv), aN E (ra 11) 18 (upN nso rc 3), aN E (ra 12) 18 (upN nnu rc (cy 5)), ob (ra 3) 0 [.int (nI (cy 0)), .int (nI (cy 1)), .int (nI (cy 2)), .int (nI (cy 3)), .int (nI (cy 4)), .int (nI (cy 5)), .int (nI (cy 6)), .int (nI (cy 7)), .ref (ca 0), .ref (ca 1), .ref (ca 2), .ref (ca 3), .ref (ca 4), .ref (ca 5), .ref (ca 6), .ref (ca 7), .ref (ca 8), .ref (ca 9), .ref (ca 10), .ref (ca 11)], aN E (ca 0) 8 f0, aN E (ca 1) 8 f1, aI E (ca 2) 8 f2, aN E (ca 3) 8 f3, aN E (ca 4) 8 f4, aM E (ca 5) 8 Fs, aM E (ca 6) 8 Ft]) rfl rfl rfl ?_
                refine v_ifN_eq X dX4_readClause_50 (tgt := 63) (by decide) (by decide) (fun h50 => ?_) (fun h50 => ?_)
                · refine v_iconst X dX4_readClause_63 (v := (-1)) (by decide) ?_
                  refine v_istore_n X dX4_readClause_64 rfl (by decide) (lv' := [(2, .int (-1)), (1, .int (nI x_29)), (0, .ref hr)]) rfl ?_
                  refine v_iload_n X dX4_readClause_65 rfl 0 rfl ?_
                  refine v_iconst X dX4_readClause_66 (v := (-1)) (by decide) ?_
                  refine v_icmp_ne X dX4_readClause_67 (tgt := 72) (by decide) (fun h67 => ?_) (fun h67 => ?_)
                  · exact absurd rfl h67
                  · refine v_iconst X dX4_readClause_70 (v := nI 0) (by decide) ?_
                    exact v_zret X Y dX4_readClause_71 (by decide) (Or.inr ⟨1, p1_29, k1_29, p1_29, n1_29, v1_29, rc + 1, (vp_updL nms rc rv), (upN nso rc 3), (upN nnu rc (cy 5)), (by unfold clauseF; rw [hW_9, sb_k, hW_20, sb_k, hW_29, sb_k, hW_47, sb_e]), rfl, rfl⟩) (by omega) (by omega)
                · exfalso; omega
            · exact (nm1 h39 (by omega)).elim
          · refine ⟨rfl, ?_⟩
            refine V.cast (st' := [.int (-1)]) (ws' := [ob hr 4 [.ref (ra 0), .int (nI fd), .ref (ra 2), .ref (ra 3), .int (nI re), .int (nI k1_20), .int (nI p1_20), .int (nI n1_20), .long v1_20, .int (nI (rh).toNat), .ref (ra 10), .ref (ra 11), .ref (ra 12), .int (nI (rc + 1)), .int (nI f_29), .int (nI p1_20)], aB E (ra 0) 900 tp, aL E (ra 2) 6 kwd, aL E (ra 10) 18 (vp_updL nms rc rv), aN E (ra 11) 18 (upN nso rc 3), aN E (ra 12) 18 (upN nnu rc (cy 5)), ob (ra 3) 0 [.int (nI (cy 0)), .int (nI (cy 1)), .int (nI (cy 2)), .int (nI (cy 3)), .int (nI (cy 4)), .int (nI (cy 5)), .int (nI (cy 6)), .int (nI (cy 7)), .ref (ca 0), .ref (ca 1), .ref (ca 2), .ref (ca 3), .ref (ca 4), .ref (ca 5), .ref (ca 6), .ref (ca 7), .ref (ca 8), .ref (ca 9), .ref (ca 10), .ref (ca 11)], aN E (ca 0) 8 f0, aN E (ca 1) 8 f1, aI E (ca 2) 8 f2, aN E (ca 3) 8 f3, aN E (ca 4) 8 f4, aM E (ca 5) 8 Fs, aM E (ca 6) 8 Ft]) rfl rfl rfl ?_
            refine v_goto X dX4_readClause_32 (tgt := 36) (by decide) ?_
            refine v_istore_n X dX4_readClause_36 rfl (by decide) (lv' := [(1, .int (-1)), (0, .ref hr)]) rfl ?_
            refine v_iload_n X dX4_readClause_37 rfl 0 rfl ?_
            refine v_iconst X dX4_readClause_38 (v := (-1)) (by decide) ?_
            refine v_icmp_ne X dX4_readClause_39 (tgt := 44) (by decide) (fun h39 => ?_) (fun h39 => ?_)
            · exact absurd rfl h39
            · refine v_iconst X dX4_readClause_42 (v := nI 0) (by decide) ?_
              exact v_zret X Y dX4_readClause_43 (by decide) (Or.inr ⟨f_29, p1_20, k1_20, p1_20, n1_20, v1_20, rc + 1, (vp_updL nms rc rv), (upN nso rc 3), (upN nnu rc (cy 5)), (by unfold clauseF; rw [hW_9, sb_k, hW_20, sb_k, hW_29, sb_e]), rfl, rfl⟩) (by omega) (by omega)
      · refine ⟨rfl, ?_⟩
        refine V.cast (st' := [.int (nI 0)]) (ws' := [ob hr 4 [.ref (ra 0), .int (nI fd), .ref (ra 2), .ref (ra 3), .int (nI re), .int (nI k1_9), .int (nI p1_9), .int (nI n1_9), .long v1_9, .int (nI (rh).toNat), .ref (ra 10), .ref (ra 11), .ref (ra 12), .int (nI (rc + 1)), .int (nI 1), .int (nI p1_9)], aB E (ra 0) 900 tp, aL E (ra 2) 6 kwd, aL E (ra 10) 18 (vp_updL nms rc rv), aN E (ra 11) 18 (upN nso rc 3), aN E (ra 12) 18 (upN nnu rc (cy 5)), ob (ra 3) 0 [.int (nI (cy 0)), .int (nI (cy 1)), .int (nI (cy 2)), .int (nI (cy 3)), .int (nI (cy 4)), .int (nI (cy 5)), .int (nI (cy 6)), .int (nI (cy 7)), .ref (ca 0), .ref (ca 1), .ref (ca 2), .ref (ca 3), .ref (ca 4), .ref (ca 5), .ref (ca 6), .ref (ca 7), .ref (ca 8), .ref (ca 9), .ref (ca 10), .ref (ca 11)], aN E (ca 0) 8 f0, aN E (ca 1) 8 f1, aI E (ca 2) 8 f2, aN E (ca 3) 8 f3, aN E (ca 4) 8 f4, aM E (ca 5) 8 Fs, aM E (ca 6) 8 Ft]) rfl rfl rfl ?_
        refine v_ifN_eq X dX4_readClause_23 (tgt := 35) (by decide) (by decide) (fun h23 => ?_) (fun h23 => ?_)
        · refine v_iconst X dX4_readClause_35 (v := (-1)) (by decide) ?_
          refine v_istore_n X dX4_readClause_36 rfl (by decide) (lv' := [(1, .int (-1)), (0, .ref hr)]) rfl ?_
          refine v_iload_n X dX4_readClause_37 rfl 0 rfl ?_
          refine v_iconst X dX4_readClause_38 (v := (-1)) (by decide) ?_
          refine v_icmp_ne X dX4_readClause_39 (tgt := 44) (by decide) (fun h39 => ?_) (fun h39 => ?_)
          · exact absurd rfl h39
          · refine v_iconst X dX4_readClause_42 (v := nI 0) (by decide) ?_
            exact v_zret X Y dX4_readClause_43 (by decide) (Or.inr ⟨1, p1_9, k1_9, p1_9, n1_9, v1_9, rc + 1, (vp_updL nms rc rv), (upN nso rc 3), (upN nnu rc (cy 5)), (by unfold clauseF; rw [hW_9, sb_k, hW_20, sb_e]), rfl, rfl⟩) (by omega) (by omega)
        · exfalso; omega
    · exfalso; omega
  · refine ⟨rfl, ?_⟩
    refine V.cast (st' := [.int (nI 0)]) (ws' := [ob hr 4 [.ref (ra 0), .int (nI fd), .ref (ra 2), .ref (ra 3), .int (nI re), .int (nI rk), .int (nI rp), .int (nI rn), .long rv, .int (nI (rh).toNat), .ref (ra 10), .ref (ra 11), .ref (ra 12), .int (nI rc), .int (nI f_9), .int (nI rp)], aB E (ra 0) 900 tp, aL E (ra 2) 6 kwd, aL E (ra 10) 18 nms, aN E (ra 11) 18 nso, aN E (ra 12) 18 nnu, ob (ra 3) 0 [.int (nI (cy 0)), .int (nI (cy 1)), .int (nI (cy 2)), .int (nI (cy 3)), .int (nI (cy 4)), .int (nI (cy 5)), .int (nI (cy 6)), .int (nI (cy 7)), .ref (ca 0), .ref (ca 1), .ref (ca 2), .ref (ca 3), .ref (ca 4), .ref (ca 5), .ref (ca 6), .ref (ca 7), .ref (ca 8), .ref (ca 9), .ref (ca 10), .ref (ca 11)], aN E (ca 0) 8 f0, aN E (ca 1) 8 f1, aI E (ca 2) 8 f2, aN E (ca 3) 8 f3, aN E (ca 4) 8 f4, aM E (ca 5) 8 Fs, aM E (ca 6) 8 Ft]) rfl rfl rfl ?_
    refine v_ifN_ne X dX4_readClause_12 (tgt := 17) (by decide) (by decide) (fun h12 => ?_) (fun h12 => ?_)
    · exfalso; omega
    · refine v_iconst X dX4_readClause_15 (v := nI 0) (by decide) ?_
      exact v_zret X Y dX4_readClause_16 (by decide) (Or.inr ⟨f_9, rp, rk, rp, rn, rv, rc, nms, nso, nnu, (by unfold clauseF; rw [hW_9, sb_e]), rfl, rfl⟩) (by omega) (by omega)
set_option maxRecDepth 100000 in
set_option maxHeartbeats 4000000 in
theorem c_X4_readUnsure (l : Launch) (E : Et) (hr : Nat) (ra : Nat → Nat) (fd : Nat) (re : Nat) (rk : Nat) (rp : Nat) (rn : Nat) (rv : Int64) (rh : Bool) (rc : Nat) (rf : Nat) (rw : Int32) (tp : Nat → Int32) (kwd : Nat → Int64) (nms : Nat → Int64) (nso : Nat → Nat) (nnu : Nat → Nat) (cy : Nat → Nat) (ca : Nat → Nat) (uc : Nat → Nat) (hre : re ≤ 900) (hT : tkO re (rk, rp, rn, rv)) (hrc : rc ≤ 18) (hns : ∀ i, i < rc → nso i ≤ 5) (hnn : ∀ i, i < rc → nnu i < 8) (hu6 : cy 6 < 5) (huc : ∀ k, k < cy 6 → uc k < 8) : Ct l E yX4_readUnsure cX4_readUnsure 2 (some .boolean) 5 0 0 [.ref hr] [ob hr 4 [.ref (ra 0), .int (nI fd), .ref (ra 2), .ref (ra 3), .int (nI re), .int (nI rk), .int (nI rp), .int (nI rn), .long rv, .int (nI (rh).toNat), .ref (ra 10), .ref (ra 11), .ref (ra 12), .int (nI rc), .int (nI rf), .int rw], aB E (ra 0) 900 tp, aL E (ra 2) 6 kwd, aL E (ra 10) 18 nms, aN E (ra 11) 18 nso, aN E (ra 12) 18 nnu, ob (ra 3) 0 [.int (nI (cy 0)), .int (nI (cy 1)), .int (nI (cy 2)), .int (nI (cy 3)), .int (nI (cy 4)), .int (nI (cy 5)), .int (nI (cy 6)), .int (nI (cy 7)), .ref (ca 0), .ref (ca 1), .ref (ca 2), .ref (ca 3), .ref (ca 4), .ref (ca 5), .ref (ca 6), .ref (ca 7), .ref (ca 8), .ref (ca 9), .ref (ca 10), .ref (ca 11)], aN E (ca 7) 5 uc] ((fun r w => (∃ (x : Nat) (k1 : Nat) (p1 : Nat) (n1 : Nat) (v1 : Int64), (pnS tp re kwd 3 (tbF uc (2 ^ cy 6 - 1) (cy 6)) (rc, nms, nso, nnu) (rk, rp, rn, rv) = .inr (x, (k1, p1, n1, v1))) ∧ (tkO re (k1, p1, n1, v1)) ∧ (rn ≤ p1) ∧ (∃ q, q < rc ∧ nso q = 3 ∧ nnu q = x) ∧ (x < 8) ∧ ((tbF uc (2 ^ cy 6 - 1) (cy 6)).testBit x = false) ∧ w = [ob hr 4 [.ref (ra 0), .int (nI fd), .ref (ra 2), .ref (ra 3), .int (nI re), .int (nI k1), .int (nI p1), .int (nI n1), .long v1, .int (nI (rh).toNat), .ref (ra 10), .ref (ra 11), .ref (ra 12), .int (nI rc), .int (nI rf), .int rw], aB E (ra 0) 900 tp, aL E (ra 2) 6 kwd, aL E (ra 10) 18 nms, aN E (ra 11) 18 nso, aN E (ra 12) 18 nnu, ob (ra 3) 0 [.int (nI ((upN cy 6 (cy 6 + 1)) 0)), .int (nI ((upN cy 6 (cy 6 + 1)) 1)), .int (nI ((upN cy 6 (cy 6 + 1)) 2)), .int (nI ((upN cy 6 (cy 6 + 1)) 3)), .int (nI ((upN cy 6 (cy 6 + 1)) 4)), .int (nI ((upN cy 6 (cy 6 + 1)) 5)), .int (nI ((upN cy 6 (cy 6 + 1)) 6)), .int (nI ((upN cy 6 (cy 6 + 1)) 7)), .ref (ca 0), .ref (ca 1), .ref (ca 2), .ref (ca 3), .ref (ca 4), .ref (ca 5), .ref (ca 6), .ref (ca 7), .ref (ca 8), .ref (ca 9), .ref (ca 10), .ref (ca 11)], aN E (ca 7) 5 (upN uc (cy 6) x)] ∧ r = some (.int (nI 1))) ∨ (∃ (f : Nat) (p : Nat) (k1 : Nat) (p1 : Nat) (n1 : Nat) (v1 : Int64), (pnS tp re kwd 3 (tbF uc (2 ^ cy 6 - 1) (cy 6)) (rc, nms, nso, nnu) (rk, rp, rn, rv) = .inl (f, p)) ∧ w = [ob hr 4 [.ref (ra 0), .int (nI fd), .ref (ra 2), .ref (ra 3), .int (nI re), .int (nI k1), .int (nI p1), .int (nI n1), .long v1, .int (nI (rh).toNat), .ref (ra 10), .ref (ra 11), .ref (ra 12), .int (nI rc), .int (nI f), .int (nI p)], aB E (ra 0) 900 tp, aL E (ra 2) 6 kwd, aL E (ra 10) 18 nms, aN E (ra 11) 18 nso, aN E (ra 12) 18 nnu, ob (ra 3) 0 [.int (nI (cy 0)), .int (nI (cy 1)), .int (nI (cy 2)), .int (nI (cy 3)), .int (nI (cy 4)), .int (nI (cy 5)), .int (nI (cy 6)), .int (nI (cy 7)), .ref (ca 0), .ref (ca 1), .ref (ca 2), .ref (ca 3), .ref (ca 4), .ref (ca 5), .ref (ca 6), .ref (ca 7), .ref (ca 8), .ref (ca 9), .ref (ca 10), .ref (ca 11)], aN E (ca 7) 5 uc] ∧ r = some (.int (nI 0))))) := by
  refine Ct.intro (by decide +kernel) (Nat.le_of_ble_eq_true rfl) (lv := [(0, .ref hr)]) rfl ?_
  intro Z X Y
  refine v_aload_n X dX4_readUnsure_0 rfl 0 rfl ?_
  refine v_iconst X dX4_readUnsure_1 (v := nI 3) (by decide) ?_
  refine v_aload_n X dX4_readUnsure_2 rfl 0 rfl ?_
  refine v_get X kcX4 fl_X4_48 dX4_readUnsure_3 0 rfl rfl ?_
  refine v_roI1 X (rn_VN X k_X0_unsureBits ml_X4_224 dX4_readUnsure_6 (c_X0_unsureBits l E (ra 3) cy ca uc (by omega) (by first | assumption | omega)) rfl 0 rfl rfl (by decide) (by decide) (by omega) (by omega) (Nat.le_of_ble_eq_true rfl)) [6, 7] rfl rfl ?_
  refine v_wr X (rn_V X k_X4_passName ml_X4_200 dX4_readUnsure_9 (c_X4_passNameA l E hr ra fd re rk rp rn rv rh rc rf rw tp kwd nms nso nnu 3 (tbF uc (2 ^ cy 6 - 1) (cy 6)) (by first | assumption | omega) (by first | assumption | omega) (by first | assumption | omega) (by decide) (by first | assumption | omega) (by first | assumption | omega) (tbF_lt _ huc)) rfl 0 rfl rfl (by decide) (by decide) (by omega) (by omega) (Nat.le_of_ble_eq_true rfl)) [0, 1, 2, 3, 4, 5] rfl rfl (fun r w1 hpo => ?_)
  rcases hpo with ⟨x_9, k1_9, p1_9, n1_9, v1_9, hW_9, hx_9, h8_9, hu_9, hO_9, hP_9, rfl, rfl⟩ | ⟨f_9, hW_9, rfl, rfl⟩
  · refine ⟨rfl, ?_⟩
    refine V.cast (st' := [.int (nI x_9)]) (ws' := [ob hr 4 [.ref (ra 0), .int (nI fd), .ref (ra 2), .ref (ra 3), .int (nI re), .int (nI k1_9), .int (nI p1_9), .int (nI n1_9), .long v1_9, .int (nI (rh).toNat), .ref (ra 10), .ref (ra 11), .ref (ra 12), .int (nI rc), .int (nI rf), .int rw], aB E (ra 0) 900 tp, aL E (ra 2) 6 kwd, aL E (ra 10) 18 nms, aN E (ra 11) 18 nso, aN E (ra 12) 18 nnu, ob (ra 3) 0 [.int (nI (cy 0)), .int (nI (cy 1)), .int (nI (cy 2)), .int (nI (cy 3)), .int (nI (cy 4)), .int (nI (cy 5)), .int (nI (cy 6)), .int (nI (cy 7)), .ref (ca 0), .ref (ca 1), .ref (ca 2), .ref (ca 3), .ref (ca 4), .ref (ca 5), .ref (ca 6), .ref (ca 7), .ref (ca 8), .ref (ca 9), .ref (ca 10), .ref (ca 11)], aN E (ca 7) 5 uc]) rfl rfl rfl ?_
    have hQ_9 : p1_9 ≤ n1_9 := hO_9.2.1
    refine v_istore_n X dX4_readUnsure_12 rfl (by decide) (lv' := [(1, .int (nI x_9)), (0, .ref hr)]) rfl ?_
    refine v_iload_n X dX4_readUnsure_13 rfl 0 rfl ?_
    refine v_iconst X dX4_readUnsure_14 (v := (-1)) (by decide) ?_
    refine v_icmp_ne X dX4_readUnsure_15 (tgt := 20) (by decide) (fun h15 => ?_) (fun h15 => ?_)
    · refine v_aload_n X dX4_readUnsure_20 rfl 1 rfl ?_
      refine v_get X kcX4 fl_X4_48 dX4_readUnsure_21 0 rfl rfl ?_
      refine v_iload_n X dX4_readUnsure_24 rfl 0 rfl ?_
      refine v_wrV1 X (rn_VN X k_X0_addUnsure ml_X4_227 dX4_readUnsure_25 (c_X0_addUnsure l E (ra 3) cy ca uc x_9 (by first | assumption | omega)) rfl 0 rfl rfl (by decide) (by decide) (by omega) (by omega) (Nat.le_of_ble_eq_true rfl)) [6, 7] rfl rfl (ws' := [ob hr 4 [.ref (ra 0), .int (nI fd), .ref (ra 2), .ref (ra 3), .int (nI re), .int (nI k1_9), .int (nI p1_9), .int (nI n1_9), .long v1_9, .int (nI (rh).toNat), .ref (ra 10), .ref (ra 11), .ref (ra 12), .int (nI rc), .int (nI rf), .int rw], aB E (ra 0) 900 tp, aL E (ra 2) 6 kwd, aL E (ra 10) 18 nms, aN E (ra 11) 18 nso, aN E (ra 12) 18 nnu, ob (ra 3) 0 [.int (nI ((upN cy 6 (cy 6 + 1)) 0)), .int (nI ((upN cy 6 (cy 6 + 1)) 1)), .int (nI ((upN cy 6 (cy 6 + 1)) 2)), .int (nI ((upN cy 6 (cy 6 + 1)) 3)), .int (nI ((upN cy 6 (cy 6 + 1)) 4)), .int (nI ((upN cy 6 (cy 6 + 1)) 5)), .int (nI ((upN cy 6 (cy 6 + 1)) 6)), .int (nI ((upN cy 6 (cy 6 + 1)) 7)), .ref (ca 0), .ref (ca 1), .ref (ca 2), .ref (ca 3), .ref (ca 4), .ref (ca 5), .ref (ca 6), .ref (ca 7), .ref (ca 8), .ref (ca 9), .ref (ca 10), .ref (ca 11)], aN E (ca 7) 5 (upN uc (cy 6) x_9)]) rfl rfl ?_
      refine v_iconst X dX4_readUnsure_28 (v := nI 1) (by decide) ?_
      exact v_zret X Y dX4_readUnsure_29 (by decide) (Or.inl ⟨x_9, k1_9, p1_9, n1_9, v1_9, (hW_9), (hO_9), (hP_9), (hx_9), (h8_9), (hu_9), rfl, rfl⟩) (by omega) (by omega)
    · exact (nm1 h15 (by omega)).elim
  · refine ⟨rfl, ?_⟩
    refine V.cast (st' := [.int (-1)]) (ws' := [ob hr 4 [.ref (ra 0), .int (nI fd), .ref (ra 2), .ref (ra 3), .int (nI re), .int (nI rk), .int (nI rp), .int (nI rn), .long rv, .int (nI (rh).toNat), .ref (ra 10), .ref (ra 11), .ref (ra 12), .int (nI rc), .int (nI f_9), .int (nI rp)], aB E (ra 0) 900 tp, aL E (ra 2) 6 kwd, aL E (ra 10) 18 nms, aN E (ra 11) 18 nso, aN E (ra 12) 18 nnu, ob (ra 3) 0 [.int (nI (cy 0)), .int (nI (cy 1)), .int (nI (cy 2)), .int (nI (cy 3)), .int (nI (cy 4)), .int (nI (cy 5)), .int (nI (cy 6)), .int (nI (cy 7)), .ref (ca 0), .ref (ca 1), .ref (ca 2), .ref (ca 3), .ref (ca 4), .ref (ca 5), .ref (ca 6), .ref (ca 7), .ref (ca 8), .ref (ca 9), .ref (ca 10), .ref (ca 11)], aN E (ca 7) 5 uc]) rfl rfl rfl ?_
    refine v_istore_n X dX4_readUnsure_12 rfl (by decide) (lv' := [(1, .int (-1)), (0, .ref hr)]) rfl ?_
    refine v_iload_n X dX4_readUnsure_13 rfl 0 rfl ?_
    refine v_iconst X dX4_readUnsure_14 (v := (-1)) (by decide) ?_
    refine v_icmp_ne X dX4_readUnsure_15 (tgt := 20) (by decide) (fun h15 => ?_) (fun h15 => ?_)
    · exact absurd rfl h15
    · refine v_iconst X dX4_readUnsure_18 (v := nI 0) (by decide) ?_
      exact v_zret X Y dX4_readUnsure_19 (by decide) (Or.inr ⟨f_9, rp, rk, rp, rn, rv, (hW_9), rfl, rfl⟩) (by omega) (by omega)
set_option maxRecDepth 100000 in
set_option maxHeartbeats 4000000 in
theorem c_X4_readDid (l : Launch) (E : Et) (hr : Nat) (ra : Nat → Nat) (fd : Nat) (re : Nat) (rk : Nat) (rp : Nat) (rn : Nat) (rv : Int64) (rh : Bool) (rc : Nat) (rf : Nat) (rw : Int32) (tp : Nat → Int32) (kwd : Nat → Int64) (nms : Nat → Int64) (nso : Nat → Nat) (nnu : Nat → Nat) (cy : Nat → Nat) (ca : Nat → Nat) (dm : Nat → Nat) (dy : Nat → Nat) (ds : Nat → Nat) (dk : Nat → Bool) (hre : re ≤ 900) (hT : tkO re (rk, rp, rn, rv)) (hrc : rc ≤ 18) (hns : ∀ i, i < rc → nso i ≤ 5) (hnn : ∀ i, i < rc → nnu i < 8) (hd7 : cy 7 < 6) : Ct l E yX4_readDid cX4_readDid 8 (some .boolean) 7 0 0 [.ref hr] [ob hr 4 [.ref (ra 0), .int (nI fd), .ref (ra 2), .ref (ra 3), .int (nI re), .int (nI rk), .int (nI rp), .int (nI rn), .long rv, .int (nI (rh).toNat), .ref (ra 10), .ref (ra 11), .ref (ra 12), .int (nI rc), .int (nI rf), .int rw], aB E (ra 0) 900 tp, aL E (ra 2) 6 kwd, aL E (ra 10) 18 nms, aN E (ra 11) 18 nso, aN E (ra 12) 18 nnu, ob (ra 3) 0 [.int (nI (cy 0)), .int (nI (cy 1)), .int (nI (cy 2)), .int (nI (cy 3)), .int (nI (cy 4)), .int (nI (cy 5)), .int (nI (cy 6)), .int (nI (cy 7)), .ref (ca 0), .ref (ca 1), .ref (ca 2), .ref (ca 3), .ref (ca 4), .ref (ca 5), .ref (ca 6), .ref (ca 7), .ref (ca 8), .ref (ca 9), .ref (ca 10), .ref (ca 11)], aN E (ca 8) 6 dm, aN E (ca 9) 6 dy, aN E (ca 10) 6 ds, aZ E (ca 11) 6 dk] ((fun r w => (∃ (xm : Nat) (xd : Nat) (xk : Bool) (xs : Nat) (k1 : Nat) (p1 : Nat) (n1 : Nat) (v1 : Int64), (didF tp re kwd (rc, nms, nso, nnu) (rk, rp, rn, rv) = .inr (xm, xd, xk, xs, (k1, p1, n1, v1))) ∧ (tkO re (k1, p1, n1, v1)) ∧ (rn ≤ p1) ∧ (∃ q, q < rc ∧ nso q = 1 ∧ nnu q = xm) ∧ (xd ≤ 40) ∧ (xs < 256) ∧ w = [ob hr 4 [.ref (ra 0), .int (nI fd), .ref (ra 2), .ref (ra 3), .int (nI re), .int (nI k1), .int (nI p1), .int (nI n1), .long v1, .int (nI (rh).toNat), .ref (ra 10), .ref (ra 11), .ref (ra 12), .int (nI rc), .int (nI rf), .int rw], aB E (ra 0) 900 tp, aL E (ra 2) 6 kwd, aL E (ra 10) 18 nms, aN E (ra 11) 18 nso, aN E (ra 12) 18 nnu, ob (ra 3) 0 [.int (nI ((upN cy 7 (cy 7 + 1)) 0)), .int (nI ((upN cy 7 (cy 7 + 1)) 1)), .int (nI ((upN cy 7 (cy 7 + 1)) 2)), .int (nI ((upN cy 7 (cy 7 + 1)) 3)), .int (nI ((upN cy 7 (cy 7 + 1)) 4)), .int (nI ((upN cy 7 (cy 7 + 1)) 5)), .int (nI ((upN cy 7 (cy 7 + 1)) 6)), .int (nI ((upN cy 7 (cy 7 + 1)) 7)), .ref (ca 0), .ref (ca 1), .ref (ca 2), .ref (ca 3), .ref (ca 4), .ref (ca 5), .ref (ca 6), .ref (ca 7), .ref (ca 8), .ref (ca 9), .ref (ca 10), .ref (ca 11)], aN E (ca 8) 6 (upN dm (cy 7) xm), aN E (ca 9) 6 (upN dy (cy 7) xd), aN E (ca 10) 6 (upN ds (cy 7) xs), aZ E (ca 11) 6 (upB dk (cy 7) xk)] ∧ r = some (.int (nI 1))) ∨ (∃ (f : Nat) (p : Nat) (k1 : Nat) (p1 : Nat) (n1 : Nat) (v1 : Int64), (didF tp re kwd (rc, nms, nso, nnu) (rk, rp, rn, rv) = .inl (f, p)) ∧ w = [ob hr 4 [.ref (ra 0), .int (nI fd), .ref (ra 2), .ref (ra 3), .int (nI re), .int (nI k1), .int (nI p1), .int (nI n1), .long v1, .int (nI (rh).toNat), .ref (ra 10), .ref (ra 11), .ref (ra 12), .int (nI rc), .int (nI f), .int (nI p)], aB E (ra 0) 900 tp, aL E (ra 2) 6 kwd, aL E (ra 10) 18 nms, aN E (ra 11) 18 nso, aN E (ra 12) 18 nnu, ob (ra 3) 0 [.int (nI (cy 0)), .int (nI (cy 1)), .int (nI (cy 2)), .int (nI (cy 3)), .int (nI (cy 4)), .int (nI (cy 5)), .int (nI (cy 6)), .int (nI (cy 7)), .ref (ca 0), .ref (ca 1), .ref (ca 2), .ref (ca 3), .ref (ca 4), .ref (ca 5), .ref (ca 6), .ref (ca 7), .ref (ca 8), .ref (ca 9), .ref (ca 10), .ref (ca 11)], aN E (ca 8) 6 dm, aN E (ca 9) 6 dy, aN E (ca 10) 6 ds, aZ E (ca 11) 6 dk] ∧ r = some (.int (nI 0))))) := by
  refine Ct.intro (by decide +kernel) (Nat.le_of_ble_eq_true rfl) (lv := [(0, .ref hr)]) rfl ?_
  intro Z X Y
  refine v_aload_n X dX4_readDid_0 rfl 0 rfl ?_
  refine v_iconst X dX4_readDid_1 (v := nI 1) (by decide) ?_
  refine v_iconst X dX4_readDid_2 (v := nI 0) (by decide) ?_
  refine v_wr X (rn_V X k_X4_passName ml_X4_200 dX4_readDid_3 (c_X4_passNameA l E hr ra fd re rk rp rn rv rh rc rf rw tp kwd nms nso nnu 1 0 (by first | assumption | omega) (by first | assumption | omega) (by first | assumption | omega) (by decide) (by first | assumption | omega) (by first | assumption | omega) (by decide)) rfl 0 rfl rfl (by decide) (by decide) (by omega) (by omega) (Nat.le_of_ble_eq_true rfl)) [0, 1, 2, 3, 4, 5] rfl rfl (fun r w1 hpo => ?_)
  rcases hpo with ⟨x_3, k1_3, p1_3, n1_3, v1_3, hW_3, hx_3, h8_3, hu_3, hO_3, hP_3, rfl, rfl⟩ | ⟨f_3, hW_3, rfl, rfl⟩
  · refine ⟨rfl, ?_⟩
    refine V.cast (st' := [.int (nI x_3)]) (ws' := [ob hr 4 [.ref (ra 0), .int (nI fd), .ref (ra 2), .ref (ra 3), .int (nI re), .int (nI k1_3), .int (nI p1_3), .int (nI n1_3), .long v1_3, .int (nI (rh).toNat), .ref (ra 10), .ref (ra 11), .ref (ra 12), .int (nI rc), .int (nI rf), .int rw], aB E (ra 0) 900 tp, aL E (ra 2) 6 kwd, aL E (ra 10) 18 nms, aN E (ra 11) 18 nso, aN E (ra 12) 18 nnu, ob (ra 3) 0 [.int (nI (cy 0)), .int (nI (cy 1)), .int (nI (cy 2)), .int (nI (cy 3)), .int (nI (cy 4)), .int (nI (cy 5)), .int (nI (cy 6)), .int (nI (cy 7)), .ref (ca 0), .ref (ca 1), .ref (ca 2), .ref (ca 3), .ref (ca 4), .ref (ca 5), .ref (ca 6), .ref (ca 7), .ref (ca 8), .ref (ca 9), .ref (ca 10), .ref (ca 11)], aN E (ca 8) 6 dm, aN E (ca 9) 6 dy, aN E (ca 10) 6 ds, aZ E (ca 11) 6 dk]) rfl rfl rfl ?_
    have hQ_3 : p1_3 ≤ n1_3 := hO_3.2.1
    refine v_istore_n X dX4_readDid_6 rfl (by decide) (lv' := [(1, .int (nI x_3)), (0, .ref hr)]) rfl ?_
    refine v_iload_n X dX4_readDid_7 rfl 0 rfl ?_
    refine v_iconst X dX4_readDid_8 (v := (-1)) (by decide) ?_
    refine v_icmp_ne X dX4_readDid_9 (tgt := 14) (by decide) (fun h9 => ?_) (fun h9 => ?_)
    · refine v_aload_n X dX4_readDid_14 rfl 1 rfl ?_
      refine v_ldcS X dX4_readDid_15 (i := 17) (tx := "day") (by decide) ?_
      refine v_wr X (rn_V X k_X4_passesWord ml_X4_178 dX4_readDid_17 (c_X4_passesWordA l E hr ra fd re k1_3 p1_3 n1_3 v1_3 rh rc rf rw tp 17 (by decide) (by first | assumption | omega) (by first | assumption | omega)) rfl 0 rfl rfl (by decide) (by decide) (by omega) (by omega) (Nat.le_of_ble_eq_true rfl)) [0, 1] rfl rfl (fun r w1 hpo => ?_)
      rcases hpo with ⟨k1_17, p1_17, n1_17, v1_17, hW_17, hO_17, hP_17, rfl, rfl⟩ | ⟨hW_17, rfl, rfl⟩
      · refine ⟨rfl, ?_⟩
        refine V.cast (st' := [.int (nI 1)]) (ws' := [ob hr 4 [.ref (ra 0), .int (nI fd), .ref (ra 2), .ref (ra 3), .int (nI re), .int (nI k1_17), .int (nI p1_17), .int (nI n1_17), .long v1_17, .int (nI (rh).toNat), .ref (ra 10), .ref (ra 11), .ref (ra 12), .int (nI rc), .int (nI rf), .int rw], aB E (ra 0) 900 tp, aL E (ra 2) 6 kwd, aL E (ra 10) 18 nms, aN E (ra 11) 18 nso, aN E (ra 12) 18 nnu, ob (ra 3) 0 [.int (nI (cy 0)), .int (nI (cy 1)), .int (nI (cy 2)), .int (nI (cy 3)), .int (nI (cy 4)), .int (nI (cy 5)), .int (nI (cy 6)), .int (nI (cy 7)), .ref (ca 0), .ref (ca 1), .ref (ca 2), .ref (ca 3), .ref (ca 4), .ref (ca 5), .ref (ca 6), .ref (ca 7), .ref (ca 8), .ref (ca 9), .ref (ca 10), .ref (ca 11)], aN E (ca 8) 6 dm, aN E (ca 9) 6 dy, aN E (ca 10) 6 ds, aZ E (ca 11) 6 dk]) rfl rfl rfl ?_
        have hQ_17 : p1_17 ≤ n1_17 := hO_17.2.1
        refine v_ifN_eq X dX4_readDid_20 (tgt := 33) (by decide) (by decide) (fun h20 => ?_) (fun h20 => ?_)
        · exfalso; omega
        · refine v_aload_n X dX4_readDid_23 rfl 1 rfl ?_
          refine v_iconst X dX4_readDid_24 (v := nI 0) (by decide) ?_
          refine v_bipush X dX4_readDid_25 (v := nI 40) (by decide) ?_
          refine v_wr X (rn_V X k_X4_passWhole ml_X4_181 dX4_readDid_27 (c_X4_passWholeA l E hr ra fd re k1_17 p1_17 n1_17 v1_17 rh rc rf rw tp 0 40 (by first | assumption | omega) (by first | assumption | omega) (by decide) (by decide)) rfl 0 rfl rfl (by decide) (by decide) (by omega) (by omega) (Nat.le_of_ble_eq_true rfl)) [0, 1] rfl rfl (fun r w1 hpo => ?_)
          rcases hpo with ⟨x_27, k1_27, p1_27, n1_27, v1_27, hW_27, hx_27, hl_27, hO_27, hP_27, rfl, rfl⟩ | ⟨f_27, hW_27, rfl, rfl⟩
          · refine ⟨rfl, ?_⟩
            refine V.cast (st' := [.int (nI x_27)]) (ws' := [ob hr 4 [.ref (ra 0), .int (nI fd), .ref (ra 2), .ref (ra 3), .int (nI re), .int (nI k1_27), .int (nI p1_27), .int (nI n1_27), .long v1_27, .int (nI (rh).toNat), .ref (ra 10), .ref (ra 11), .ref (ra 12), .int (nI rc), .int (nI rf), .int rw], aB E (ra 0) 900 tp, aL E (ra 2) 6 kwd, aL E (ra 10) 18 nms, aN E (ra 11) 18 nso, aN E (ra 12) 18 nnu, ob (ra 3) 0 [.int (nI (cy 0)), .int (nI (cy 1)), .int (nI (cy 2)), .int (nI (cy 3)), .int (nI (cy 4)), .int (nI (cy 5)), .int (nI (cy 6)), .int (nI (cy 7)), .ref (ca 0), .ref (ca 1), .ref (ca 2), .ref (ca 3), .ref (ca 4), .ref (ca 5), .ref (ca 6), .ref (ca 7), .ref (ca 8), .ref (ca 9), .ref (ca 10), .ref (ca 11)], aN E (ca 8) 6 dm, aN E (ca 9) 6 dy, aN E (ca 10) 6 ds, aZ E (ca 11) 6 dk]) rfl rfl rfl ?_
            have hQ_27 : p1_27 ≤ n1_27 := hO_27.2.1
            refine v_goto X dX4_readDid_30 (tgt := 34) (by decide) ?_
            refine v_istore_n X dX4_readDid_34 rfl (by decide) (lv' := [(2, .int (nI x_27)), (1, .int (nI x_3)), (0, .ref hr)]) rfl ?_
            refine v_iload_n X dX4_readDid_35 rfl 0 rfl ?_
            refine v_iconst X dX4_readDid_36 (v := (-1)) (by decide) ?_
            refine v_icmp_ne X dX4_readDid_37 (tgt := 42) (by decide) (fun h37 => ?_) (fun h37 => ?_)
            · refine v_aload_n X dX4_readDid_42 rfl 2 rfl ?_
              refine v_ldcS X dX4_readDid_43 (i := 18) (tx := "kept") (by decide) ?_
              refine v_roI1 X (rn_V X k_X4_stands ml_X4_130 dX4_readDid_45 (c_X4_stands l E hr ra fd re k1_27 p1_27 n1_27 v1_27 rh rc rf rw 18 (by decide) (hO_27.1)) rfl 0 rfl rfl (by decide) (by decide) (by omega) (by omega) (Nat.le_of_ble_eq_true rfl)) [0] rfl rfl ?_
              refine v_istore_n X dX4_readDid_48 rfl (by decide) (lv' := [(3, .int (nI (decide (k1_27 = 1 ∧ v1_27 = lN (pkS 27 18))).toNat)), (2, .int (nI x_27)), (1, .int (nI x_3)), (0, .ref hr)]) rfl ?_
              refine v_aload_n X dX4_readDid_49 rfl 3 rfl ?_
              refine v_iload_n X dX4_readDid_50 rfl 0 rfl ?_
              refine v_ifB_ne X dX4_readDid_51 (tgt := 63) (by decide) (fun h51 => ?_) (fun h51 => ?_)
              · refine v_iconst X dX4_readDid_63 (v := nI 1) (by decide) ?_
                refine v_goto X dX4_readDid_64 (tgt := 68) (by decide) ?_
                refine v_wr X (rn_V X k_X4_passes ml_X4_103 dX4_readDid_68 (c_X4_passesA l E hr ra fd re k1_27 p1_27 n1_27 v1_27 rh rc rf rw tp true (by first | assumption | omega) (by first | assumption | omega)) rfl 0 rfl rfl (by decide) (by decide) (by omega) (by omega) (Nat.le_of_ble_eq_true rfl)) [0, 1] rfl rfl (fun r w1 hpo => ?_)
                rcases hpo with ⟨k1_68, p1_68, n1_68, v1_68, hB_68, hA_68, hO_68, hP_68, rfl, rfl⟩ | ⟨hB_68, rfl, rfl⟩
                · refine ⟨rfl, ?_⟩
                  refine V.cast (st' := [.int (nI 1)]) (ws' := [ob hr 4 [.ref (ra 0), .int (nI fd), .ref (ra 2), .ref (ra 3), .int (nI re), .int (nI k1_68), .int (nI p1_68), .int (nI n1_68), .long v1_68, .int (nI (rh).toNat), .ref (ra 10), .ref (ra 11), .ref (ra 12), .int (nI rc), .int (nI rf), .int rw], aB E (ra 0) 900 tp, aL E (ra 2) 6 kwd, aL E (ra 10) 18 nms, aN E (ra 11) 18 nso, aN E (ra 12) 18 nnu, ob (ra 3) 0 [.int (nI (cy 0)), .int (nI (cy 1)), .int (nI (cy 2)), .int (nI (cy 3)), .int (nI (cy 4)), .int (nI (cy 5)), .int (nI (cy 6)), .int (nI (cy 7)), .ref (ca 0), .ref (ca 1), .ref (ca 2), .ref (ca 3), .ref (ca 4), .ref (ca 5), .ref (ca 6), .ref (ca 7), .ref (ca 8), .ref (ca 9), .ref (ca 10), .ref (ca 11)], aN E (ca 8) 6 dm, aN E (ca 9) 6 dy, aN E (ca 10) 6 ds, aZ E (ca 11) 6 dk]) rfl rfl rfl ?_
                  have hQ_68 : p1_68 ≤ n1_68 := hO_68.2.1
                  have hQ9 : rn ≤ p1_68 := by omega
                  refine v_ifN_ne X dX4_readDid_71 (tgt := 76) (by decide) (by decide) (fun h71 => ?_) (fun h71 => ?_)
                  · refine v_iconst X dX4_readDid_76 (v := nI 0) (by decide) ?_
                    refine v_istore X dX4_readDid_77 (by decide) (lv' := [(4, .int (nI 0)), (3, .int (nI (decide (k1_27 = 1 ∧ v1_27 = lN (pkS 27 18))).toNat)), (2, .int (nI x_27)), (1, .int (nI x_3)), (0, .ref hr)]) rfl ?_
                    refine v_aload_n X dX4_readDid_79 rfl 4 rfl ?_
                    refine v_get X kcX4 fl_X4_90 dX4_readDid_80 0 rfl rfl ?_
                    refine v_ifN_eq X dX4_readDid_83 (tgt := 98) (by decide) (tk_lt (by assumption)) (fun h83 => ?_) (fun h83 => ?_)
                    · refine v_iconst X dX4_readDid_98 (v := nI 0) (by decide) ?_
                      refine v_istore X dX4_readDid_99 (by decide) (lv' := [(5, .int (nI 0)), (4, .int (nI 0)), (3, .int (nI (decide (k1_27 = 1 ∧ v1_27 = lN (pkS 27 18))).toNat)), (2, .int (nI x_27)), (1, .int (nI x_3)), (0, .ref hr)]) rfl ?_
                      refine v_iconst X dX4_readDid_101 (v := nI 0) (by decide) ?_
                      refine v_istore X dX4_readDid_102 (by decide) (lv' := [(6, .int (nI 0)), (5, .int (nI 0)), (4, .int (nI 0)), (3, .int (nI (decide (k1_27 = 1 ∧ v1_27 = lN (pkS 27 18))).toNat)), (2, .int (nI x_27)), (1, .int (nI x_3)), (0, .ref hr)]) rfl ?_
                      have L104 : ∀ (j104 : Nat) (vi : Nat) (vm : Bool) (vs : Nat) (lk : Nat) (lp : Nat) (ln : Nat) (lv : Int64), (vi ≤ 7 ∧ vs < 256 ∧ tkO re (lk, lp, ln, lv) ∧ rn ≤ lp ∧ (vm = true → setF tp re kwd (rc, nms, nso, nnu) (k1_68, p1_68, n1_68, v1_68) = dsF tp re kwd (rc, nms, nso, nnu) (7 - vi) vs (lk, lp, ln, lv)) ∧ (vm = false → setF tp re kwd (rc, nms, nso, nnu) (k1_68, p1_68, n1_68, v1_68) = .inr (vs, (lk, lp, ln, lv)))) → 8 - vi < j104 → V E Z 104 [(0, .ref hr), (1, .int (nI x_3)), (2, .int (nI x_27)), (3, .int (nI (decide (k1_27 = 1 ∧ v1_27 = lN (pkS 27 18))).toNat)), (4, .int (nI vs)), (5, .int (nI (vm).toNat)), (6, .int (nI vi))] [] [ob hr 4 [.ref (ra 0), .int (nI fd), .ref (ra 2), .ref (ra 3), .int (nI re), .int (nI lk), .int (nI lp), .int (nI ln), .long lv, .int (nI (rh).toNat), .ref (ra 10), .ref (ra 11), .ref (ra 12), .int (nI rc), .int (nI rf), .int rw], aB E (ra 0) 900 tp, aL E (ra 2) 6 kwd, aL E (ra 10) 18 nms, aN E (ra 11) 18 nso, aN E (ra 12) 18 nnu, ob (ra 3) 0 [.int (nI (cy 0)), .int (nI (cy 1)), .int (nI (cy 2)), .int (nI (cy 3)), .int (nI (cy 4)), .int (nI (cy 5)), .int (nI (cy 6)), .int (nI (cy 7)), .ref (ca 0), .ref (ca 1), .ref (ca 2), .ref (ca 3), .ref (ca 4), .ref (ca 5), .ref (ca 6), .ref (ca 7), .ref (ca 8), .ref (ca 9), .ref (ca 10), .ref (ca 11)], aN E (ca 8) 6 dm, aN E (ca 9) 6 dy, aN E (ca 10) 6 ds, aZ E (ca 11) 6 dk] 0 0 := by
                        intro j104
                        induction j104 with
                        | zero => intro vi vm vs lk lp ln lv hI hM; exact absurd hM (Nat.not_lt_zero _)
                        | succ j104 ih104 =>
                          intro vi vm vs lk lp ln lv hI104 hM104
                          obtain ⟨hv7, hvs, hlT, hlp, hm1, hm0⟩ := id hI104
                          refine v_iload X dX4_readDid_104 5 rfl ?_
                          refine v_ifB_eq X dX4_readDid_106 (tgt := 172) (by decide) (fun h106 => ?_) (fun h106 => ?_)
                          · have hS9 : setF tp re kwd (rc, nms, nso, nnu) (k1_68, p1_68, n1_68, v1_68) = .inr (vs, (lk, lp, ln, lv)) := hm0 h106
                            refine v_aload_n X dX4_readDid_172 rfl 0 rfl ?_
                            refine v_get X kcX4 fl_X4_48 dX4_readDid_173 0 rfl rfl ?_
                            refine v_iload_n X dX4_readDid_176 rfl 1 rfl ?_
                            refine v_iload_n X dX4_readDid_177 rfl 2 rfl ?_
                            refine v_iload_n X dX4_readDid_178 rfl 3 rfl ?_
                            refine v_iload X dX4_readDid_179 4 rfl ?_
                            refine v_wrV1 X (rn_VN X k_X0_addDid ml_X4_237 dX4_readDid_181 (c_X0_addDid l E (ra 3) cy ca dm dy ds dk x_3 x_27 (decide (k1_27 = 1 ∧ v1_27 = lN (pkS 27 18))) vs (by first | assumption | omega)) rfl 0 rfl rfl (by decide) (by decide) (by omega) (by omega) (Nat.le_of_ble_eq_true rfl)) [6, 7, 8, 9, 10] rfl rfl (ws' := [ob hr 4 [.ref (ra 0), .int (nI fd), .ref (ra 2), .ref (ra 3), .int (nI re), .int (nI lk), .int (nI lp), .int (nI ln), .long lv, .int (nI (rh).toNat), .ref (ra 10), .ref (ra 11), .ref (ra 12), .int (nI rc), .int (nI rf), .int rw], aB E (ra 0) 900 tp, aL E (ra 2) 6 kwd, aL E (ra 10) 18 nms, aN E (ra 11) 18 nso, aN E (ra 12) 18 nnu, ob (ra 3) 0 [.int (nI ((upN cy 7 (cy 7 + 1)) 0)), .int (nI ((upN cy 7 (cy 7 + 1)) 1)), .int (nI ((upN cy 7 (cy 7 + 1)) 2)), .int (nI ((upN cy 7 (cy 7 + 1)) 3)), .int (nI ((upN cy 7 (cy 7 + 1)) 4)), .int (nI ((upN cy 7 (cy 7 + 1)) 5)), .int (nI ((upN cy 7 (cy 7 + 1)) 6)), .int (nI ((upN cy 7 (cy 7 + 1)) 7)), .ref (ca 0), .ref (ca 1), .ref (ca 2), .ref (ca 3), .ref (ca 4), .ref (ca 5), .ref (ca 6), .ref (ca 7), .ref (ca 8), .ref (ca 9), .ref (ca 10), .ref (ca 11)], aN E (ca 8) 6 (upN dm (cy 7) x_3), aN E (ca 9) 6 (upN dy (cy 7) x_27), aN E (ca 10) 6 (upN ds (cy 7) vs), aZ E (ca 11) 6 (upB dk (cy 7) (decide (k1_27 = 1 ∧ v1_27 = lN (pkS 27 18))))]) rfl rfl ?_
                            refine v_iconst X dX4_readDid_184 (v := nI 1) (by decide) ?_
                            exact v_zret X Y dX4_readDid_185 (by decide) (Or.inl ⟨x_3, x_27, (decide (k1_27 = 1 ∧ v1_27 = lN (pkS 27 18))), vs, lk, lp, ln, lv, (by unfold didF; rw [hW_3, sb_k, hW_17, sb_k, hW_27, sb_k, kb_1 h51 hA_68, sb_k, hS9, sb_k]), (hlT), (by omega), (hx_3), (by omega), (hvs), rfl, rfl⟩) (by omega) (by omega)
                          · have hlQ : lp ≤ ln := hlT.2.1
                            refine v_iload X dX4_readDid_109 6 rfl ?_
                            refine v_bipush X dX4_readDid_111 (v := nI 6) (by decide) ?_
                            refine v_icmpN_gt X dX4_readDid_113 (tgt := 172) (by decide) (by omega) (by decide) (fun h113 => ?_) (fun h113 => ?_)
                            · have hS9 : setF tp re kwd (rc, nms, nso, nnu) (k1_68, p1_68, n1_68, v1_68) = .inr (vs, (lk, lp, ln, lv)) := (hm1 h106).trans (by rw [show 7 - vi = 0 by omega, dsF])
                              refine v_aload_n X dX4_readDid_172 rfl 0 rfl ?_
                              refine v_get X kcX4 fl_X4_48 dX4_readDid_173 0 rfl rfl ?_
                              refine v_iload_n X dX4_readDid_176 rfl 1 rfl ?_
                              refine v_iload_n X dX4_readDid_177 rfl 2 rfl ?_
                              refine v_iload_n X dX4_readDid_178 rfl 3 rfl ?_
                              refine v_iload X dX4_readDid_179 4 rfl ?_
                              refine v_wrV1 X (rn_VN X k_X0_addDid ml_X4_237 dX4_readDid_181 (c_X0_addDid l E (ra 3) cy ca dm dy ds dk x_3 x_27 (decide (k1_27 = 1 ∧ v1_27 = lN (pkS 27 18))) vs (by first | assumption | omega)) rfl 0 rfl rfl (by decide) (by decide) (by omega) (by omega) (Nat.le_of_ble_eq_true rfl)) [6, 7, 8, 9, 10] rfl rfl (ws' := [ob hr 4 [.ref (ra 0), .int (nI fd), .ref (ra 2), .ref (ra 3), .int (nI re), .int (nI lk), .int (nI lp), .int (nI ln), .long lv, .int (nI (rh).toNat), .ref (ra 10), .ref (ra 11), .ref (ra 12), .int (nI rc), .int (nI rf), .int rw], aB E (ra 0) 900 tp, aL E (ra 2) 6 kwd, aL E (ra 10) 18 nms, aN E (ra 11) 18 nso, aN E (ra 12) 18 nnu, ob (ra 3) 0 [.int (nI ((upN cy 7 (cy 7 + 1)) 0)), .int (nI ((upN cy 7 (cy 7 + 1)) 1)), .int (nI ((upN cy 7 (cy 7 + 1)) 2)), .int (nI ((upN cy 7 (cy 7 + 1)) 3)), .int (nI ((upN cy 7 (cy 7 + 1)) 4)), .int (nI ((upN cy 7 (cy 7 + 1)) 5)), .int (nI ((upN cy 7 (cy 7 + 1)) 6)), .int (nI ((upN cy 7 (cy 7 + 1)) 7)), .ref (ca 0), .ref (ca 1), .ref (ca 2), .ref (ca 3), .ref (ca 4), .ref (ca 5), .ref (ca 6), .ref (ca 7), .ref (ca 8), .ref (ca 9), .ref (ca 10), .ref (ca 11)], aN E (ca 8) 6 (upN dm (cy 7) x_3), aN E (ca 9) 6 (upN dy (cy 7) x_27), aN E (ca 10) 6 (upN ds (cy 7) vs), aZ E (ca 11) 6 (upB dk (cy 7) (decide (k1_27 = 1 ∧ v1_27 = lN (pkS 27 18))))]) rfl rfl ?_
                              refine v_iconst X dX4_readDid_184 (v := nI 1) (by decide) ?_
                              exact v_zret X Y dX4_readDid_185 (by decide) (Or.inl ⟨x_3, x_27, (decide (k1_27 = 1 ∧ v1_27 = lN (pkS 27 18))), vs, lk, lp, ln, lv, (by unfold didF; rw [hW_3, sb_k, hW_17, sb_k, hW_27, sb_k, kb_1 h51 hA_68, sb_k, hS9, sb_k]), (hlT), (by omega), (hx_3), (by omega), (hvs), rfl, rfl⟩) (by omega) (by omega)
                            · refine v_aload_n X dX4_readDid_116 rfl 0 rfl ?_
                              refine v_iconst X dX4_readDid_117 (v := nI 2) (by decide) ?_
                              refine v_iload X dX4_readDid_118 4 rfl ?_
                              refine v_wr X (rn_V X k_X4_passName ml_X4_200 dX4_readDid_120 (c_X4_passNameA l E hr ra fd re lk lp ln lv rh rc rf rw tp kwd nms nso nnu 2 vs (by first | assumption | omega) (hlT) (by first | assumption | omega) (by decide) (by first | assumption | omega) (by first | assumption | omega) (hvs)) rfl 0 rfl rfl (by decide) (by decide) (by omega) (by omega) (Nat.le_of_ble_eq_true rfl)) [0, 1, 2, 3, 4, 5] rfl rfl (fun r w1 hpo => ?_)
                              rcases hpo with ⟨x_120, k1_120, p1_120, n1_120, v1_120, hW_120, hx_120, h8_120, hu_120, hO_120, hP_120, rfl, rfl⟩ | ⟨f_120, hW_120, rfl, rfl⟩
                              · refine ⟨rfl, ?_⟩
                                refine V.cast (st' := [.int (nI x_120)]) (ws' := [ob hr 4 [.ref (ra 0), .int (nI fd), .ref (ra 2), .ref (ra 3), .int (nI re), .int (nI k1_120), .int (nI p1_120), .int (nI n1_120), .long v1_120, .int (nI (rh).toNat), .ref (ra 10), .ref (ra 11), .ref (ra 12), .int (nI rc), .int (nI rf), .int rw], aB E (ra 0) 900 tp, aL E (ra 2) 6 kwd, aL E (ra 10) 18 nms, aN E (ra 11) 18 nso, aN E (ra 12) 18 nnu, ob (ra 3) 0 [.int (nI (cy 0)), .int (nI (cy 1)), .int (nI (cy 2)), .int (nI (cy 3)), .int (nI (cy 4)), .int (nI (cy 5)), .int (nI (cy 6)), .int (nI (cy 7)), .ref (ca 0), .ref (ca 1), .ref (ca 2), .ref (ca 3), .ref (ca 4), .ref (ca 5), .ref (ca 6), .ref (ca 7), .ref (ca 8), .ref (ca 9), .ref (ca 10), .ref (ca 11)], aN E (ca 8) 6 dm, aN E (ca 9) 6 dy, aN E (ca 10) 6 ds, aZ E (ca 11) 6 dk]) rfl rfl rfl ?_
                                have hQ_120 : p1_120 ≤ n1_120 := hO_120.2.1
                                refine v_istore X dX4_readDid_123 (by decide) (lv' := [(7, .int (nI x_120)), (0, .ref hr), (1, .int (nI x_3)), (2, .int (nI x_27)), (3, .int (nI (decide (k1_27 = 1 ∧ v1_27 = lN (pkS 27 18))).toNat)), (4, .int (nI vs)), (5, .int (nI (vm).toNat)), (6, .int (nI vi))]) rfl ?_
                                refine v_iload X dX4_readDid_125 0 rfl ?_
                                refine v_iconst X dX4_readDid_127 (v := (-1)) (by decide) ?_
                                refine v_icmp_ne X dX4_readDid_128 (tgt := 133) (by decide) (fun h128 => ?_) (fun h128 => ?_)
                                · refine v_iload X dX4_readDid_133 5 rfl ?_
                                  refine v_iconst X dX4_readDid_135 (v := nI 1) (by decide) ?_
                                  refine v_iload X dX4_readDid_136 0 rfl ?_
                                  refine v_ishl X dX4_readDid_138 ?_
                                  refine v_eqi (x' := nI (2 ^ x_120)) (nI_shl1 (by omega)) ?_
                                  refine v_ior X dX4_readDid_139 ?_
                                  refine v_eqi (x' := nI (vs ||| (2 ^ x_120))) (fa_or _ _) ?_
                                  refine v_istore X dX4_readDid_140 (by decide) (lv' := [(4, .int (nI (vs ||| (2 ^ x_120)))), (7, .int (nI x_120)), (0, .ref hr), (1, .int (nI x_3)), (2, .int (nI x_27)), (3, .int (nI (decide (k1_27 = 1 ∧ v1_27 = lN (pkS 27 18))).toNat)), (5, .int (nI (vm).toNat)), (6, .int (nI vi))]) rfl ?_
                                  refine v_aload_n X dX4_readDid_142 rfl 2 rfl ?_
                                  refine v_get X kcX4 fl_X4_90 dX4_readDid_143 0 rfl rfl ?_
                                  refine v_iconst X dX4_readDid_146 (v := nI 4) (by decide) ?_
                                  refine v_icmpN_ne X dX4_readDid_147 (tgt := 154) (by decide) (tk_lt (by assumption)) (by decide) (fun h147 => ?_) (fun h147 => ?_)
                                  · refine v_iconst X dX4_readDid_154 (v := nI 0) (by decide) ?_
                                    refine v_istore X dX4_readDid_155 (by decide) (lv' := [(5, .int (nI 0)), (4, .int (nI (vs ||| (2 ^ x_120)))), (7, .int (nI x_120)), (0, .ref hr), (1, .int (nI x_3)), (2, .int (nI x_27)), (3, .int (nI (decide (k1_27 = 1 ∧ v1_27 = lN (pkS 27 18))).toNat)), (6, .int (nI vi))]) rfl ?_
                                    refine v_iload X dX4_readDid_157 0 rfl ?_
                                    refine v_ifN_eq X dX4_readDid_159 (tgt := 166) (by decide) (by decide) (fun h159 => ?_) (fun h159 => ?_)
                                    · refine v_iinc X dX4_readDid_166 7 rfl (v := nI (vi + 1)) (nI_inc vi) (by decide) (lv' := [(6, .int (nI (vi + 1))), (5, .int (nI 0)), (4, .int (nI (vs ||| (2 ^ x_120)))), (7, .int (nI x_120)), (0, .ref hr), (1, .int (nI x_3)), (2, .int (nI x_27)), (3, .int (nI (decide (k1_27 = 1 ∧ v1_27 = lN (pkS 27 18))).toNat))]) rfl ?_
                                      refine v_goto X dX4_readDid_169 (tgt := 104) (by decide) ?_
                                      refine V.lvs [4, 5, 6, 7, 2, 1, 0] rfl ?_
                                      exact ih104 (vi + 1) false (vs ||| (2 ^ x_120)) k1_120 p1_120 n1_120 v1_120 (⟨by omega, or_256 hvs h8_120, hO_120, by omega, fun z => absurd z (by decide), fun _ => (hm1 h106).trans (by rw [show 7 - vi = (7 - (vi + 1)) + 1 by omega, dsF, hW_120, sb_k, if_neg h147])⟩) (by omega)
                                    · exfalso; omega
                                  · refine v_iconst X dX4_readDid_150 (v := nI 1) (by decide) ?_
                                    refine v_goto X dX4_readDid_151 (tgt := 155) (by decide) ?_
                                    refine v_istore X dX4_readDid_155 (by decide) (lv' := [(5, .int (nI 1)), (4, .int (nI (vs ||| (2 ^ x_120)))), (7, .int (nI x_120)), (0, .ref hr), (1, .int (nI x_3)), (2, .int (nI x_27)), (3, .int (nI (decide (k1_27 = 1 ∧ v1_27 = lN (pkS 27 18))).toNat)), (6, .int (nI vi))]) rfl ?_
                                    refine v_iload X dX4_readDid_157 0 rfl ?_
                                    refine v_ifN_eq X dX4_readDid_159 (tgt := 166) (by decide) (by decide) (fun h159 => ?_) (fun h159 => ?_)
                                    · exfalso; omega
                                    · refine v_aload_n X dX4_readDid_162 rfl 3 rfl ?_
                                      refine v_wr X (rn_V X k_X4_advance ml_X4_83 dX4_readDid_163 (c_X4_advanceA l E hr ra fd re k1_120 p1_120 n1_120 v1_120 rh rc rf rw tp (by first | assumption | omega) (hO_120)) rfl 0 rfl rfl (by decide) (by decide) (by omega) (by omega) (Nat.le_of_ble_eq_true rfl)) [0, 1] rfl rfl (fun r w1 hpo => ?_)
                                      rcases hpo with ⟨k1_163, p1_163, n1_163, v1_163, hA_163, hO_163, hP_163, rfl, rfl⟩
                                      · refine ⟨rfl, ?_⟩
                                        refine V.cast (st' := []) (ws' := [ob hr 4 [.ref (ra 0), .int (nI fd), .ref (ra 2), .ref (ra 3), .int (nI re), .int (nI k1_163), .int (nI p1_163), .int (nI n1_163), .long v1_163, .int (nI (rh).toNat), .ref (ra 10), .ref (ra 11), .ref (ra 12), .int (nI rc), .int (nI rf), .int rw], aB E (ra 0) 900 tp, aL E (ra 2) 6 kwd, aL E (ra 10) 18 nms, aN E (ra 11) 18 nso, aN E (ra 12) 18 nnu, ob (ra 3) 0 [.int (nI (cy 0)), .int (nI (cy 1)), .int (nI (cy 2)), .int (nI (cy 3)), .int (nI (cy 4)), .int (nI (cy 5)), .int (nI (cy 6)), .int (nI (cy 7)), .ref (ca 0), .ref (ca 1), .ref (ca 2), .ref (ca 3), .ref (ca 4), .ref (ca 5), .ref (ca 6), .ref (ca 7), .ref (ca 8), .ref (ca 9), .ref (ca 10), .ref (ca 11)], aN E (ca 8) 6 dm, aN E (ca 9) 6 dy, aN E (ca 10) 6 ds, aZ E (ca 11) 6 dk]) rfl rfl rfl ?_
                                        have hQ_163 : p1_163 ≤ n1_163 := hO_163.2.1
                                        refine v_iinc X dX4_readDid_166 7 rfl (v := nI (vi + 1)) (nI_inc vi) (by decide) (lv' := [(6, .int (nI (vi + 1))), (5, .int (nI 1)), (4, .int (nI (vs ||| (2 ^ x_120)))), (7, .int (nI x_120)), (0, .ref hr), (1, .int (nI x_3)), (2, .int (nI x_27)), (3, .int (nI (decide (k1_27 = 1 ∧ v1_27 = lN (pkS 27 18))).toNat))]) rfl ?_
                                        refine v_goto X dX4_readDid_169 (tgt := 104) (by decide) ?_
                                        refine V.lvs [4, 5, 6, 7, 2, 1, 0] rfl ?_
                                        exact ih104 (vi + 1) true (vs ||| (2 ^ x_120)) k1_163 p1_163 n1_163 v1_163 (⟨by omega, or_256 hvs h8_120, hO_163, by omega, fun _ => (hm1 h106).trans (by rw [show 7 - vi = (7 - (vi + 1)) + 1 by omega, dsF, hW_120, sb_k, if_pos h147]; exact congrArg (dsF tp re kwd (rc, nms, nso, nnu) (7 - (vi + 1)) (vs ||| 2 ^ x_120)) hA_163), fun z => absurd z (by decide)⟩) (by omega)
                                · exact (nm1 h128 (by omega)).elim
                              · refine ⟨rfl, ?_⟩
                                refine V.cast (st' := [.int (-1)]) (ws' := [ob hr 4 [.ref (ra 0), .int (nI fd), .ref (ra 2), .ref (ra 3), .int (nI re), .int (nI lk), .int (nI lp), .int (nI ln), .long lv, .int (nI (rh).toNat), .ref (ra 10), .ref (ra 11), .ref (ra 12), .int (nI rc), .int (nI f_120), .int (nI lp)], aB E (ra 0) 900 tp, aL E (ra 2) 6 kwd, aL E (ra 10) 18 nms, aN E (ra 11) 18 nso, aN E (ra 12) 18 nnu, ob (ra 3) 0 [.int (nI (cy 0)), .int (nI (cy 1)), .int (nI (cy 2)), .int (nI (cy 3)), .int (nI (cy 4)), .int (nI (cy 5)), .int (nI (cy 6)), .int (nI (cy 7)), .ref (ca 0), .ref (ca 1), .ref (ca 2), .ref (ca 3), .ref (ca 4), .ref (ca 5), .ref (ca 6), .ref (ca 7), .ref (ca 8), .ref (ca 9), .ref (ca 10), .ref (ca 11)], aN E (ca 8) 6 dm, aN E (ca 9) 6 dy, aN E (ca 10) 6 ds, aZ E (ca 11) 6 dk]) rfl rfl rfl ?_
                                refine v_istore X dX4_readDid_123 (by decide) (lv' := [(7, .int (-1)), (0, .ref hr), (1, .int (nI x_3)), (2, .int (nI x_27)), (3, .int (nI (decide (k1_27 = 1 ∧ v1_27 = lN (pkS 27 18))).toNat)), (4, .int (nI vs)), (5, .int (nI (vm).toNat)), (6, .int (nI vi))]) rfl ?_
                                refine v_iload X dX4_readDid_125 0 rfl ?_
                                refine v_iconst X dX4_readDid_127 (v := (-1)) (by decide) ?_
                                refine v_icmp_ne X dX4_readDid_128 (tgt := 133) (by decide) (fun h128 => ?_) (fun h128 => ?_)
                                · exact absurd rfl h128
                                · refine v_iconst X dX4_readDid_131 (v := nI 0) (by decide) ?_
                                  exact v_zret X Y dX4_readDid_132 (by decide) (Or.inr ⟨f_120, lp, lk, lp, ln, lv, (by unfold didF; rw [hW_3, sb_k, hW_17, sb_k, hW_27, sb_k, kb_1 h51 hA_68, sb_k, (hm1 h106).trans (show dsF tp re kwd (rc, nms, nso, nnu) (7 - vi) vs (lk, lp, ln, lv) = .inl (f_120, lp) by rw [show 7 - vi = (7 - (vi + 1)) + 1 by omega, dsF, hW_120, sb_e]), sb_e]), rfl, rfl⟩) (by omega) (by omega)
                      refine V.lvs [6, 5, 4, 3, 2, 1, 0] rfl ?_
                      exact L104 _ 0 false 0 k1_68 p1_68 n1_68 v1_68 (⟨by omega, by decide, hO_68, hQ9, fun z => absurd z (by decide), fun _ => if_pos (Or.inl h83)⟩) (Nat.lt_succ_self _)
                    · refine v_aload_n X dX4_readDid_86 rfl 4 rfl ?_
                      refine v_get X kcX4 fl_X4_90 dX4_readDid_87 0 rfl rfl ?_
                      refine v_iconst X dX4_readDid_90 (v := nI 3) (by decide) ?_
                      refine v_icmpN_eq X dX4_readDid_91 (tgt := 98) (by decide) (tk_lt (by assumption)) (by decide) (fun h91 => ?_) (fun h91 => ?_)
                      · refine v_iconst X dX4_readDid_98 (v := nI 0) (by decide) ?_
                        refine v_istore X dX4_readDid_99 (by decide) (lv' := [(5, .int (nI 0)), (4, .int (nI 0)), (3, .int (nI (decide (k1_27 = 1 ∧ v1_27 = lN (pkS 27 18))).toNat)), (2, .int (nI x_27)), (1, .int (nI x_3)), (0, .ref hr)]) rfl ?_
                        refine v_iconst X dX4_readDid_101 (v := nI 0) (by decide) ?_
                        refine v_istore X dX4_readDid_102 (by decide) (lv' := [(6, .int (nI 0)), (5, .int (nI 0)), (4, .int (nI 0)), (3, .int (nI (decide (k1_27 = 1 ∧ v1_27 = lN (pkS 27 18))).toNat)), (2, .int (nI x_27)), (1, .int (nI x_3)), (0, .ref hr)]) rfl ?_
                        have L104 : ∀ (j104 : Nat) (vi : Nat) (vm : Bool) (vs : Nat) (lk : Nat) (lp : Nat) (ln : Nat) (lv : Int64), (vi ≤ 7 ∧ vs < 256 ∧ tkO re (lk, lp, ln, lv) ∧ rn ≤ lp ∧ (vm = true → setF tp re kwd (rc, nms, nso, nnu) (k1_68, p1_68, n1_68, v1_68) = dsF tp re kwd (rc, nms, nso, nnu) (7 - vi) vs (lk, lp, ln, lv)) ∧ (vm = false → setF tp re kwd (rc, nms, nso, nnu) (k1_68, p1_68, n1_68, v1_68) = .inr (vs, (lk, lp, ln, lv)))) → 8 - vi < j104 → V E Z 104 [(0, .ref hr), (1, .int (nI x_3)), (2, .int (nI x_27)), (3, .int (nI (decide (k1_27 = 1 ∧ v1_27 = lN (pkS 27 18))).toNat)), (4, .int (nI vs)), (5, .int (nI (vm).toNat)), (6, .int (nI vi))] [] [ob hr 4 [.ref (ra 0), .int (nI fd), .ref (ra 2), .ref (ra 3), .int (nI re), .int (nI lk), .int (nI lp), .int (nI ln), .long lv, .int (nI (rh).toNat), .ref (ra 10), .ref (ra 11), .ref (ra 12), .int (nI rc), .int (nI rf), .int rw], aB E (ra 0) 900 tp, aL E (ra 2) 6 kwd, aL E (ra 10) 18 nms, aN E (ra 11) 18 nso, aN E (ra 12) 18 nnu, ob (ra 3) 0 [.int (nI (cy 0)), .int (nI (cy 1)), .int (nI (cy 2)), .int (nI (cy 3)), .int (nI (cy 4)), .int (nI (cy 5)), .int (nI (cy 6)), .int (nI (cy 7)), .ref (ca 0), .ref (ca 1), .ref (ca 2), .ref (ca 3), .ref (ca 4), .ref (ca 5), .ref (ca 6), .ref (ca 7), .ref (ca 8), .ref (ca 9), .ref (ca 10), .ref (ca 11)], aN E (ca 8) 6 dm, aN E (ca 9) 6 dy, aN E (ca 10) 6 ds, aZ E (ca 11) 6 dk] 0 0 := by
                          intro j104
                          induction j104 with
                          | zero => intro vi vm vs lk lp ln lv hI hM; exact absurd hM (Nat.not_lt_zero _)
                          | succ j104 ih104 =>
                            intro vi vm vs lk lp ln lv hI104 hM104
                            obtain ⟨hv7, hvs, hlT, hlp, hm1, hm0⟩ := id hI104
                            refine v_iload X dX4_readDid_104 5 rfl ?_
                            refine v_ifB_eq X dX4_readDid_106 (tgt := 172) (by decide) (fun h106 => ?_) (fun h106 => ?_)
                            · have hS9 : setF tp re kwd (rc, nms, nso, nnu) (k1_68, p1_68, n1_68, v1_68) = .inr (vs, (lk, lp, ln, lv)) := hm0 h106
                              refine v_aload_n X dX4_readDid_172 rfl 0 rfl ?_
                              refine v_get X kcX4 fl_X4_48 dX4_readDid_173 0 rfl rfl ?_
                              refine v_iload_n X dX4_readDid_176 rfl 1 rfl ?_
                              refine v_iload_n X dX4_readDid_177 rfl 2 rfl ?_
                              refine v_iload_n X dX4_readDid_178 rfl 3 rfl ?_
                              refine v_iload X dX4_readDid_179 4 rfl ?_
                              refine v_wrV1 X (rn_VN X k_X0_addDid ml_X4_237 dX4_readDid_181 (c_X0_addDid l E (ra 3) cy ca dm dy ds dk x_3 x_27 (decide (k1_27 = 1 ∧ v1_27 = lN (pkS 27 18))) vs (by first | assumption | omega)) rfl 0 rfl rfl (by decide) (by decide) (by omega) (by omega) (Nat.le_of_ble_eq_true rfl)) [6, 7, 8, 9, 10] rfl rfl (ws' := [ob hr 4 [.ref (ra 0), .int (nI fd), .ref (ra 2), .ref (ra 3), .int (nI re), .int (nI lk), .int (nI lp), .int (nI ln), .long lv, .int (nI (rh).toNat), .ref (ra 10), .ref (ra 11), .ref (ra 12), .int (nI rc), .int (nI rf), .int rw], aB E (ra 0) 900 tp, aL E (ra 2) 6 kwd, aL E (ra 10) 18 nms, aN E (ra 11) 18 nso, aN E (ra 12) 18 nnu, ob (ra 3) 0 [.int (nI ((upN cy 7 (cy 7 + 1)) 0)), .int (nI ((upN cy 7 (cy 7 + 1)) 1)), .int (nI ((upN cy 7 (cy 7 + 1)) 2)), .int (nI ((upN cy 7 (cy 7 + 1)) 3)), .int (nI ((upN cy 7 (cy 7 + 1)) 4)), .int (nI ((upN cy 7 (cy 7 + 1)) 5)), .int (nI ((upN cy 7 (cy 7 + 1)) 6)), .int (nI ((upN cy 7 (cy 7 + 1)) 7)), .ref (ca 0), .ref (ca 1), .ref (ca 2), .ref (ca 3), .ref (ca 4), .ref (ca 5), .ref (ca 6), .ref (ca 7), .ref (ca 8), .ref (ca 9), .ref (ca 10), .ref (ca 11)], aN E (ca 8) 6 (upN dm (cy 7) x_3), aN E (ca 9) 6 (upN dy (cy 7) x_27), aN E (ca 10) 6 (upN ds (cy 7) vs), aZ E (ca 11) 6 (upB dk (cy 7) (decide (k1_27 = 1 ∧ v1_27 = lN (pkS 27 18))))]) rfl rfl ?_
                              refine v_iconst X dX4_readDid_184 (v := nI 1) (by decide) ?_
                              exact v_zret X Y dX4_readDid_185 (by decide) (Or.inl ⟨x_3, x_27, (decide (k1_27 = 1 ∧ v1_27 = lN (pkS 27 18))), vs, lk, lp, ln, lv, (by unfold didF; rw [hW_3, sb_k, hW_17, sb_k, hW_27, sb_k, kb_1 h51 hA_68, sb_k, hS9, sb_k]), (hlT), (by omega), (hx_3), (by omega), (hvs), rfl, rfl⟩) (by omega) (by omega)
                            · have hlQ : lp ≤ ln := hlT.2.1
                              refine v_iload X dX4_readDid_109 6 rfl ?_
                              refine v_bipush X dX4_readDid_111 (v := nI 6) (by decide) ?_
                              refine v_icmpN_gt X dX4_readDid_113 (tgt := 172) (by decide) (by omega) (by decide) (fun h113 => ?_) (fun h113 => ?_)
                              · have hS9 : setF tp re kwd (rc, nms, nso, nnu) (k1_68, p1_68, n1_68, v1_68) = .inr (vs, (lk, lp, ln, lv)) := (hm1 h106).trans (by rw [show 7 - vi = 0 by omega, dsF])
                                refine v_aload_n X dX4_readDid_172 rfl 0 rfl ?_
                                refine v_get X kcX4 fl_X4_48 dX4_readDid_173 0 rfl rfl ?_
                                refine v_iload_n X dX4_readDid_176 rfl 1 rfl ?_
                                refine v_iload_n X dX4_readDid_177 rfl 2 rfl ?_
                                refine v_iload_n X dX4_readDid_178 rfl 3 rfl ?_
                                refine v_iload X dX4_readDid_179 4 rfl ?_
                                refine v_wrV1 X (rn_VN X k_X0_addDid ml_X4_237 dX4_readDid_181 (c_X0_addDid l E (ra 3) cy ca dm dy ds dk x_3 x_27 (decide (k1_27 = 1 ∧ v1_27 = lN (pkS 27 18))) vs (by first | assumption | omega)) rfl 0 rfl rfl (by decide) (by decide) (by omega) (by omega) (Nat.le_of_ble_eq_true rfl)) [6, 7, 8, 9, 10] rfl rfl (ws' := [ob hr 4 [.ref (ra 0), .int (nI fd), .ref (ra 2), .ref (ra 3), .int (nI re), .int (nI lk), .int (nI lp), .int (nI ln), .long lv, .int (nI (rh).toNat), .ref (ra 10), .ref (ra 11), .ref (ra 12), .int (nI rc), .int (nI rf), .int rw], aB E (ra 0) 900 tp, aL E (ra 2) 6 kwd, aL E (ra 10) 18 nms, aN E (ra 11) 18 nso, aN E (ra 12) 18 nnu, ob (ra 3) 0 [.int (nI ((upN cy 7 (cy 7 + 1)) 0)), .int (nI ((upN cy 7 (cy 7 + 1)) 1)), .int (nI ((upN cy 7 (cy 7 + 1)) 2)), .int (nI ((upN cy 7 (cy 7 + 1)) 3)), .int (nI ((upN cy 7 (cy 7 + 1)) 4)), .int (nI ((upN cy 7 (cy 7 + 1)) 5)), .int (nI ((upN cy 7 (cy 7 + 1)) 6)), .int (nI ((upN cy 7 (cy 7 + 1)) 7)), .ref (ca 0), .ref (ca 1), .ref (ca 2), .ref (ca 3), .ref (ca 4), .ref (ca 5), .ref (ca 6), .ref (ca 7), .ref (ca 8), .ref (ca 9), .ref (ca 10), .ref (ca 11)], aN E (ca 8) 6 (upN dm (cy 7) x_3), aN E (ca 9) 6 (upN dy (cy 7) x_27), aN E (ca 10) 6 (upN ds (cy 7) vs), aZ E (ca 11) 6 (upB dk (cy 7) (decide (k1_27 = 1 ∧ v1_27 = lN (pkS 27 18))))]) rfl rfl ?_
                                refine v_iconst X dX4_readDid_184 (v := nI 1) (by decide) ?_
                                exact v_zret X Y dX4_readDid_185 (by decide) (Or.inl ⟨x_3, x_27, (decide (k1_27 = 1 ∧ v1_27 = lN (pkS 27 18))), vs, lk, lp, ln, lv, (by unfold didF; rw [hW_3, sb_k, hW_17, sb_k, hW_27, sb_k, kb_1 h51 hA_68, sb_k, hS9, sb_k]), (hlT), (by omega), (hx_3), (by omega), (hvs), rfl, rfl⟩) (by omega) (by omega)
                              · refine v_aload_n X dX4_readDid_116 rfl 0 rfl ?_
                                refine v_iconst X dX4_readDid_117 (v := nI 2) (by decide) ?_
                                refine v_iload X dX4_readDid_118 4 rfl ?_
                                refine v_wr X (rn_V X k_X4_passName ml_X4_200 dX4_readDid_120 (c_X4_passNameA l E hr ra fd re lk lp ln lv rh rc rf rw tp kwd nms nso nnu 2 vs (by first | assumption | omega) (hlT) (by first | assumption | omega) (by decide) (by first | assumption | omega) (by first | assumption | omega) (hvs)) rfl 0 rfl rfl (by decide) (by decide) (by omega) (by omega) (Nat.le_of_ble_eq_true rfl)) [0, 1, 2, 3, 4, 5] rfl rfl (fun r w1 hpo => ?_)
                                rcases hpo with ⟨x_120, k1_120, p1_120, n1_120, v1_120, hW_120, hx_120, h8_120, hu_120, hO_120, hP_120, rfl, rfl⟩ | ⟨f_120, hW_120, rfl, rfl⟩
                                · refine ⟨rfl, ?_⟩
                                  refine V.cast (st' := [.int (nI x_120)]) (ws' := [ob hr 4 [.ref (ra 0), .int (nI fd), .ref (ra 2), .ref (ra 3), .int (nI re), .int (nI k1_120), .int (nI p1_120), .int (nI n1_120), .long v1_120, .int (nI (rh).toNat), .ref (ra 10), .ref (ra 11), .ref (ra 12), .int (nI rc), .int (nI rf), .int rw], aB E (ra 0) 900 tp, aL E (ra 2) 6 kwd, aL E (ra 10) 18 nms, aN E (ra 11) 18 nso, aN E (ra 12) 18 nnu, ob (ra 3) 0 [.int (nI (cy 0)), .int (nI (cy 1)), .int (nI (cy 2)), .int (nI (cy 3)), .int (nI (cy 4)), .int (nI (cy 5)), .int (nI (cy 6)), .int (nI (cy 7)), .ref (ca 0), .ref (ca 1), .ref (ca 2), .ref (ca 3), .ref (ca 4), .ref (ca 5), .ref (ca 6), .ref (ca 7), .ref (ca 8), .ref (ca 9), .ref (ca 10), .ref (ca 11)], aN E (ca 8) 6 dm, aN E (ca 9) 6 dy, aN E (ca 10) 6 ds, aZ E (ca 11) 6 dk]) rfl rfl rfl ?_
                                  have hQ_120 : p1_120 ≤ n1_120 := hO_120.2.1
                                  refine v_istore X dX4_readDid_123 (by decide) (lv' := [(7, .int (nI x_120)), (0, .ref hr), (1, .int (nI x_3)), (2, .int (nI x_27)), (3, .int (nI (decide (k1_27 = 1 ∧ v1_27 = lN (pkS 27 18))).toNat)), (4, .int (nI vs)), (5, .int (nI (vm).toNat)), (6, .int (nI vi))]) rfl ?_
                                  refine v_iload X dX4_readDid_125 0 rfl ?_
                                  refine v_iconst X dX4_readDid_127 (v := (-1)) (by decide) ?_
                                  refine v_icmp_ne X dX4_readDid_128 (tgt := 133) (by decide) (fun h128 => ?_) (fun h128 => ?_)
                                  · refine v_iload X dX4_readDid_133 5 rfl ?_
                                    refine v_iconst X dX4_readDid_135 (v := nI 1) (by decide) ?_
                                    refine v_iload X dX4_readDid_136 0 rfl ?_
                                    refine v_ishl X dX4_readDid_138 ?_
                                    refine v_eqi (x' := nI (2 ^ x_120)) (nI_shl1 (by omega)) ?_
                                    refine v_ior X dX4_readDid_139 ?_
                                    refine v_eqi (x' := nI (vs ||| (2 ^ x_120))) (fa_or _ _) ?_
                                    refine v_istore X dX4_readDid_140 (by decide) (lv' := [(4, .int (nI (vs ||| (2 ^ x_120)))), (7, .int (nI x_120)), (0, .ref hr), (1, .int (nI x_3)), (2, .int (nI x_27)), (3, .int (nI (decide (k1_27 = 1 ∧ v1_27 = lN (pkS 27 18))).toNat)), (5, .int (nI (vm).toNat)), (6, .int (nI vi))]) rfl ?_
                                    refine v_aload_n X dX4_readDid_142 rfl 2 rfl ?_
                                    refine v_get X kcX4 fl_X4_90 dX4_readDid_143 0 rfl rfl ?_
                                    refine v_iconst X dX4_readDid_146 (v := nI 4) (by decide) ?_
                                    refine v_icmpN_ne X dX4_readDid_147 (tgt := 154) (by decide) (tk_lt (by assumption)) (by decide) (fun h147 => ?_) (fun h147 => ?_)
                                    · refine v_iconst X dX4_readDid_154 (v := nI 0) (by decide) ?_
                                      refine v_istore X dX4_readDid_155 (by decide) (lv' := [(5, .int (nI 0)), (4, .int (nI (vs ||| (2 ^ x_120)))), (7, .int (nI x_120)), (0, .ref hr), (1, .int (nI x_3)), (2, .int (nI x_27)), (3, .int (nI (decide (k1_27 = 1 ∧ v1_27 = lN (pkS 27 18))).toNat)), (6, .int (nI vi))]) rfl ?_
                                      refine v_iload X dX4_readDid_157 0 rfl ?_
                                      refine v_ifN_eq X dX4_readDid_159 (tgt := 166) (by decide) (by decide) (fun h159 => ?_) (fun h159 => ?_)
                                      · refine v_iinc X dX4_readDid_166 7 rfl (v := nI (vi + 1)) (nI_inc vi) (by decide) (lv' := [(6, .int (nI (vi + 1))), (5, .int (nI 0)), (4, .int (nI (vs ||| (2 ^ x_120)))), (7, .int (nI x_120)), (0, .ref hr), (1, .int (nI x_3)), (2, .int (nI x_27)), (3, .int (nI (decide (k1_27 = 1 ∧ v1_27 = lN (pkS 27 18))).toNat))]) rfl ?_
                                        refine v_goto X dX4_readDid_169 (tgt := 104) (by decide) ?_
                                        refine V.lvs [4, 5, 6, 7, 2, 1, 0] rfl ?_
                                        exact ih104 (vi + 1) false (vs ||| (2 ^ x_120)) k1_120 p1_120 n1_120 v1_120 (⟨by omega, or_256 hvs h8_120, hO_120, by omega, fun z => absurd z (by decide), fun _ => (hm1 h106).trans (by rw [show 7 - vi = (7 - (vi + 1)) + 1 by omega, dsF, hW_120, sb_k, if_neg h147])⟩) (by omega)
                                      · exfalso; omega
                                    · refine v_iconst X dX4_readDid_150 (v := nI 1) (by decide) ?_
                                      refine v_goto X dX4_readDid_151 (tgt := 155) (by decide) ?_
                                      refine v_istore X dX4_readDid_155 (by decide) (lv' := [(5, .int (nI 1)), (4, .int (nI (vs ||| (2 ^ x_120)))), (7, .int (nI x_120)), (0, .ref hr), (1, .int (nI x_3)), (2, .int (nI x_27)), (3, .int (nI (decide (k1_27 = 1 ∧ v1_27 = lN (pkS 27 18))).toNat)), (6, .int (nI vi))]) rfl ?_
                                      refine v_iload X dX4_readDid_157 0 rfl ?_
                                      refine v_ifN_eq X dX4_readDid_159 (tgt := 166) (by decide) (by decide) (fun h159 => ?_) (fun h159 => ?_)
                                      · exfalso; omega
                                      · refine v_aload_n X dX4_readDid_162 rfl 3 rfl ?_
                                        refine v_wr X (rn_V X k_X4_advance ml_X4_83 dX4_readDid_163 (c_X4_advanceA l E hr ra fd re k1_120 p1_120 n1_120 v1_120 rh rc rf rw tp (by first | assumption | omega) (hO_120)) rfl 0 rfl rfl (by decide) (by decide) (by omega) (by omega) (Nat.le_of_ble_eq_true rfl)) [0, 1] rfl rfl (fun r w1 hpo => ?_)
                                        rcases hpo with ⟨k1_163, p1_163, n1_163, v1_163, hA_163, hO_163, hP_163, rfl, rfl⟩
                                        · refine ⟨rfl, ?_⟩
                                          refine V.cast (st' := []) (ws' := [ob hr 4 [.ref (ra 0), .int (nI fd), .ref (ra 2), .ref (ra 3), .int (nI re), .int (nI k1_163), .int (nI p1_163), .int (nI n1_163), .long v1_163, .int (nI (rh).toNat), .ref (ra 10), .ref (ra 11), .ref (ra 12), .int (nI rc), .int (nI rf), .int rw], aB E (ra 0) 900 tp, aL E (ra 2) 6 kwd, aL E (ra 10) 18 nms, aN E (ra 11) 18 nso, aN E (ra 12) 18 nnu, ob (ra 3) 0 [.int (nI (cy 0)), .int (nI (cy 1)), .int (nI (cy 2)), .int (nI (cy 3)), .int (nI (cy 4)), .int (nI (cy 5)), .int (nI (cy 6)), .int (nI (cy 7)), .ref (ca 0), .ref (ca 1), .ref (ca 2), .ref (ca 3), .ref (ca 4), .ref (ca 5), .ref (ca 6), .ref (ca 7), .ref (ca 8), .ref (ca 9), .ref (ca 10), .ref (ca 11)], aN E (ca 8) 6 dm, aN E (ca 9) 6 dy, aN E (ca 10) 6 ds, aZ E (ca 11) 6 dk]) rfl rfl rfl ?_
                                          have hQ_163 : p1_163 ≤ n1_163 := hO_163.2.1
                                          refine v_iinc X dX4_readDid_166 7 rfl (v := nI (vi + 1)) (nI_inc vi) (by decide) (lv' := [(6, .int (nI (vi + 1))), (5, .int (nI 1)), (4, .int (nI (vs ||| (2 ^ x_120)))), (7, .int (nI x_120)), (0, .ref hr), (1, .int (nI x_3)), (2, .int (nI x_27)), (3, .int (nI (decide (k1_27 = 1 ∧ v1_27 = lN (pkS 27 18))).toNat))]) rfl ?_
                                          refine v_goto X dX4_readDid_169 (tgt := 104) (by decide) ?_
                                          refine V.lvs [4, 5, 6, 7, 2, 1, 0] rfl ?_
                                          exact ih104 (vi + 1) true (vs ||| (2 ^ x_120)) k1_163 p1_163 n1_163 v1_163 (⟨by omega, or_256 hvs h8_120, hO_163, by omega, fun _ => (hm1 h106).trans (by rw [show 7 - vi = (7 - (vi + 1)) + 1 by omega, dsF, hW_120, sb_k, if_pos h147]; exact congrArg (dsF tp re kwd (rc, nms, nso, nnu) (7 - (vi + 1)) (vs ||| 2 ^ x_120)) hA_163), fun z => absurd z (by decide)⟩) (by omega)
                                  · exact (nm1 h128 (by omega)).elim
                                · refine ⟨rfl, ?_⟩
                                  refine V.cast (st' := [.int (-1)]) (ws' := [ob hr 4 [.ref (ra 0), .int (nI fd), .ref (ra 2), .ref (ra 3), .int (nI re), .int (nI lk), .int (nI lp), .int (nI ln), .long lv, .int (nI (rh).toNat), .ref (ra 10), .ref (ra 11), .ref (ra 12), .int (nI rc), .int (nI f_120), .int (nI lp)], aB E (ra 0) 900 tp, aL E (ra 2) 6 kwd, aL E (ra 10) 18 nms, aN E (ra 11) 18 nso, aN E (ra 12) 18 nnu, ob (ra 3) 0 [.int (nI (cy 0)), .int (nI (cy 1)), .int (nI (cy 2)), .int (nI (cy 3)), .int (nI (cy 4)), .int (nI (cy 5)), .int (nI (cy 6)), .int (nI (cy 7)), .ref (ca 0), .ref (ca 1), .ref (ca 2), .ref (ca 3), .ref (ca 4), .ref (ca 5), .ref (ca 6), .ref (ca 7), .ref (ca 8), .ref (ca 9), .ref (ca 10), .ref (ca 11)], aN E (ca 8) 6 dm, aN E (ca 9) 6 dy, aN E (ca 10) 6 ds, aZ E (ca 11) 6 dk]) rfl rfl rfl ?_
                                  refine v_istore X dX4_readDid_123 (by decide) (lv' := [(7, .int (-1)), (0, .ref hr), (1, .int (nI x_3)), (2, .int (nI x_27)), (3, .int (nI (decide (k1_27 = 1 ∧ v1_27 = lN (pkS 27 18))).toNat)), (4, .int (nI vs)), (5, .int (nI (vm).toNat)), (6, .int (nI vi))]) rfl ?_
                                  refine v_iload X dX4_readDid_125 0 rfl ?_
                                  refine v_iconst X dX4_readDid_127 (v := (-1)) (by decide) ?_
                                  refine v_icmp_ne X dX4_readDid_128 (tgt := 133) (by decide) (fun h128 => ?_) (fun h128 => ?_)
                                  · exact absurd rfl h128
                                  · refine v_iconst X dX4_readDid_131 (v := nI 0) (by decide) ?_
                                    exact v_zret X Y dX4_readDid_132 (by decide) (Or.inr ⟨f_120, lp, lk, lp, ln, lv, (by unfold didF; rw [hW_3, sb_k, hW_17, sb_k, hW_27, sb_k, kb_1 h51 hA_68, sb_k, (hm1 h106).trans (show dsF tp re kwd (rc, nms, nso, nnu) (7 - vi) vs (lk, lp, ln, lv) = .inl (f_120, lp) by rw [show 7 - vi = (7 - (vi + 1)) + 1 by omega, dsF, hW_120, sb_e]), sb_e]), rfl, rfl⟩) (by omega) (by omega)
                        refine V.lvs [6, 5, 4, 3, 2, 1, 0] rfl ?_
                        exact L104 _ 0 false 0 k1_68 p1_68 n1_68 v1_68 (⟨by omega, by decide, hO_68, hQ9, fun z => absurd z (by decide), fun _ => if_pos (Or.inr h91)⟩) (Nat.lt_succ_self _)
                      · refine v_iconst X dX4_readDid_94 (v := nI 1) (by decide) ?_
                        refine v_goto X dX4_readDid_95 (tgt := 99) (by decide) ?_
                        refine v_istore X dX4_readDid_99 (by decide) (lv' := [(5, .int (nI 1)), (4, .int (nI 0)), (3, .int (nI (decide (k1_27 = 1 ∧ v1_27 = lN (pkS 27 18))).toNat)), (2, .int (nI x_27)), (1, .int (nI x_3)), (0, .ref hr)]) rfl ?_
                        refine v_iconst X dX4_readDid_101 (v := nI 0) (by decide) ?_
                        refine v_istore X dX4_readDid_102 (by decide) (lv' := [(6, .int (nI 0)), (5, .int (nI 1)), (4, .int (nI 0)), (3, .int (nI (decide (k1_27 = 1 ∧ v1_27 = lN (pkS 27 18))).toNat)), (2, .int (nI x_27)), (1, .int (nI x_3)), (0, .ref hr)]) rfl ?_
                        have L104 : ∀ (j104 : Nat) (vi : Nat) (vm : Bool) (vs : Nat) (lk : Nat) (lp : Nat) (ln : Nat) (lv : Int64), (vi ≤ 7 ∧ vs < 256 ∧ tkO re (lk, lp, ln, lv) ∧ rn ≤ lp ∧ (vm = true → setF tp re kwd (rc, nms, nso, nnu) (k1_68, p1_68, n1_68, v1_68) = dsF tp re kwd (rc, nms, nso, nnu) (7 - vi) vs (lk, lp, ln, lv)) ∧ (vm = false → setF tp re kwd (rc, nms, nso, nnu) (k1_68, p1_68, n1_68, v1_68) = .inr (vs, (lk, lp, ln, lv)))) → 8 - vi < j104 → V E Z 104 [(0, .ref hr), (1, .int (nI x_3)), (2, .int (nI x_27)), (3, .int (nI (decide (k1_27 = 1 ∧ v1_27 = lN (pkS 27 18))).toNat)), (4, .int (nI vs)), (5, .int (nI (vm).toNat)), (6, .int (nI vi))] [] [ob hr 4 [.ref (ra 0), .int (nI fd), .ref (ra 2), .ref (ra 3), .int (nI re), .int (nI lk), .int (nI lp), .int (nI ln), .long lv, .int (nI (rh).toNat), .ref (ra 10), .ref (ra 11), .ref (ra 12), .int (nI rc), .int (nI rf), .int rw], aB E (ra 0) 900 tp, aL E (ra 2) 6 kwd, aL E (ra 10) 18 nms, aN E (ra 11) 18 nso, aN E (ra 12) 18 nnu, ob (ra 3) 0 [.int (nI (cy 0)), .int (nI (cy 1)), .int (nI (cy 2)), .int (nI (cy 3)), .int (nI (cy 4)), .int (nI (cy 5)), .int (nI (cy 6)), .int (nI (cy 7)), .ref (ca 0), .ref (ca 1), .ref (ca 2), .ref (ca 3), .ref (ca 4), .ref (ca 5), .ref (ca 6), .ref (ca 7), .ref (ca 8), .ref (ca 9), .ref (ca 10), .ref (ca 11)], aN E (ca 8) 6 dm, aN E (ca 9) 6 dy, aN E (ca 10) 6 ds, aZ E (ca 11) 6 dk] 0 0 := by
                          intro j104
                          induction j104 with
                          | zero => intro vi vm vs lk lp ln lv hI hM; exact absurd hM (Nat.not_lt_zero _)
                          | succ j104 ih104 =>
                            intro vi vm vs lk lp ln lv hI104 hM104
                            obtain ⟨hv7, hvs, hlT, hlp, hm1, hm0⟩ := id hI104
                            refine v_iload X dX4_readDid_104 5 rfl ?_
                            refine v_ifB_eq X dX4_readDid_106 (tgt := 172) (by decide) (fun h106 => ?_) (fun h106 => ?_)
                            · have hS9 : setF tp re kwd (rc, nms, nso, nnu) (k1_68, p1_68, n1_68, v1_68) = .inr (vs, (lk, lp, ln, lv)) := hm0 h106
                              refine v_aload_n X dX4_readDid_172 rfl 0 rfl ?_
                              refine v_get X kcX4 fl_X4_48 dX4_readDid_173 0 rfl rfl ?_
                              refine v_iload_n X dX4_readDid_176 rfl 1 rfl ?_
                              refine v_iload_n X dX4_readDid_177 rfl 2 rfl ?_
                              refine v_iload_n X dX4_readDid_178 rfl 3 rfl ?_
                              refine v_iload X dX4_readDid_179 4 rfl ?_
                              refine v_wrV1 X (rn_VN X k_X0_addDid ml_X4_237 dX4_readDid_181 (c_X0_addDid l E (ra 3) cy ca dm dy ds dk x_3 x_27 (decide (k1_27 = 1 ∧ v1_27 = lN (pkS 27 18))) vs (by first | assumption | omega)) rfl 0 rfl rfl (by decide) (by decide) (by omega) (by omega) (Nat.le_of_ble_eq_true rfl)) [6, 7, 8, 9, 10] rfl rfl (ws' := [ob hr 4 [.ref (ra 0), .int (nI fd), .ref (ra 2), .ref (ra 3), .int (nI re), .int (nI lk), .int (nI lp), .int (nI ln), .long lv, .int (nI (rh).toNat), .ref (ra 10), .ref (ra 11), .ref (ra 12), .int (nI rc), .int (nI rf), .int rw], aB E (ra 0) 900 tp, aL E (ra 2) 6 kwd, aL E (ra 10) 18 nms, aN E (ra 11) 18 nso, aN E (ra 12) 18 nnu, ob (ra 3) 0 [.int (nI ((upN cy 7 (cy 7 + 1)) 0)), .int (nI ((upN cy 7 (cy 7 + 1)) 1)), .int (nI ((upN cy 7 (cy 7 + 1)) 2)), .int (nI ((upN cy 7 (cy 7 + 1)) 3)), .int (nI ((upN cy 7 (cy 7 + 1)) 4)), .int (nI ((upN cy 7 (cy 7 + 1)) 5)), .int (nI ((upN cy 7 (cy 7 + 1)) 6)), .int (nI ((upN cy 7 (cy 7 + 1)) 7)), .ref (ca 0), .ref (ca 1), .ref (ca 2), .ref (ca 3), .ref (ca 4), .ref (ca 5), .ref (ca 6), .ref (ca 7), .ref (ca 8), .ref (ca 9), .ref (ca 10), .ref (ca 11)], aN E (ca 8) 6 (upN dm (cy 7) x_3), aN E (ca 9) 6 (upN dy (cy 7) x_27), aN E (ca 10) 6 (upN ds (cy 7) vs), aZ E (ca 11) 6 (upB dk (cy 7) (decide (k1_27 = 1 ∧ v1_27 = lN (pkS 27 18))))]) rfl rfl ?_
                              refine v_iconst X dX4_readDid_184 (v := nI 1) (by decide) ?_
                              exact v_zret X Y dX4_readDid_185 (by decide) (Or.inl ⟨x_3, x_27, (decide (k1_27 = 1 ∧ v1_27 = lN (pkS 27 18))), vs, lk, lp, ln, lv, (by unfold didF; rw [hW_3, sb_k, hW_17, sb_k, hW_27, sb_k, kb_1 h51 hA_68, sb_k, hS9, sb_k]), (hlT), (by omega), (hx_3), (by omega), (hvs), rfl, rfl⟩) (by omega) (by omega)
                            · have hlQ : lp ≤ ln := hlT.2.1
                              refine v_iload X dX4_readDid_109 6 rfl ?_
                              refine v_bipush X dX4_readDid_111 (v := nI 6) (by decide) ?_
                              refine v_icmpN_gt X dX4_readDid_113 (tgt := 172) (by decide) (by omega) (by decide) (fun h113 => ?_) (fun h113 => ?_)
                              · have hS9 : setF tp re kwd (rc, nms, nso, nnu) (k1_68, p1_68, n1_68, v1_68) = .inr (vs, (lk, lp, ln, lv)) := (hm1 h106).trans (by rw [show 7 - vi = 0 by omega, dsF])
                                refine v_aload_n X dX4_readDid_172 rfl 0 rfl ?_
                                refine v_get X kcX4 fl_X4_48 dX4_readDid_173 0 rfl rfl ?_
                                refine v_iload_n X dX4_readDid_176 rfl 1 rfl ?_
                                refine v_iload_n X dX4_readDid_177 rfl 2 rfl ?_
                                refine v_iload_n X dX4_readDid_178 rfl 3 rfl ?_
                                refine v_iload X dX4_readDid_179 4 rfl ?_
                                refine v_wrV1 X (rn_VN X k_X0_addDid ml_X4_237 dX4_readDid_181 (c_X0_addDid l E (ra 3) cy ca dm dy ds dk x_3 x_27 (decide (k1_27 = 1 ∧ v1_27 = lN (pkS 27 18))) vs (by first | assumption | omega)) rfl 0 rfl rfl (by decide) (by decide) (by omega) (by omega) (Nat.le_of_ble_eq_true rfl)) [6, 7, 8, 9, 10] rfl rfl (ws' := [ob hr 4 [.ref (ra 0), .int (nI fd), .ref (ra 2), .ref (ra 3), .int (nI re), .int (nI lk), .int (nI lp), .int (nI ln), .long lv, .int (nI (rh).toNat), .ref (ra 10), .ref (ra 11), .ref (ra 12), .int (nI rc), .int (nI rf), .int rw], aB E (ra 0) 900 tp, aL E (ra 2) 6 kwd, aL E (ra 10) 18 nms, aN E (ra 11) 18 nso, aN E (ra 12) 18 nnu, ob (ra 3) 0 [.int (nI ((upN cy 7 (cy 7 + 1)) 0)), .int (nI ((upN cy 7 (cy 7 + 1)) 1)), .int (nI ((upN cy 7 (cy 7 + 1)) 2)), .int (nI ((upN cy 7 (cy 7 + 1)) 3)), .int (nI ((upN cy 7 (cy 7 + 1)) 4)), .int (nI ((upN cy 7 (cy 7 + 1)) 5)), .int (nI ((upN cy 7 (cy 7 + 1)) 6)), .int (nI ((upN cy 7 (cy 7 + 1)) 7)), .ref (ca 0), .ref (ca 1), .ref (ca 2), .ref (ca 3), .ref (ca 4), .ref (ca 5), .ref (ca 6), .ref (ca 7), .ref (ca 8), .ref (ca 9), .ref (ca 10), .ref (ca 11)], aN E (ca 8) 6 (upN dm (cy 7) x_3), aN E (ca 9) 6 (upN dy (cy 7) x_27), aN E (ca 10) 6 (upN ds (cy 7) vs), aZ E (ca 11) 6 (upB dk (cy 7) (decide (k1_27 = 1 ∧ v1_27 = lN (pkS 27 18))))]) rfl rfl ?_
                                refine v_iconst X dX4_readDid_184 (v := nI 1) (by decide) ?_
                                exact v_zret X Y dX4_readDid_185 (by decide) (Or.inl ⟨x_3, x_27, (decide (k1_27 = 1 ∧ v1_27 = lN (pkS 27 18))), vs, lk, lp, ln, lv, (by unfold didF; rw [hW_3, sb_k, hW_17, sb_k, hW_27, sb_k, kb_1 h51 hA_68, sb_k, hS9, sb_k]), (hlT), (by omega), (hx_3), (by omega), (hvs), rfl, rfl⟩) (by omega) (by omega)
                              · refine v_aload_n X dX4_readDid_116 rfl 0 rfl ?_
                                refine v_iconst X dX4_readDid_117 (v := nI 2) (by decide) ?_
                                refine v_iload X dX4_readDid_118 4 rfl ?_
                                refine v_wr X (rn_V X k_X4_passName ml_X4_200 dX4_readDid_120 (c_X4_passNameA l E hr ra fd re lk lp ln lv rh rc rf rw tp kwd nms nso nnu 2 vs (by first | assumption | omega) (hlT) (by first | assumption | omega) (by decide) (by first | assumption | omega) (by first | assumption | omega) (hvs)) rfl 0 rfl rfl (by decide) (by decide) (by omega) (by omega) (Nat.le_of_ble_eq_true rfl)) [0, 1, 2, 3, 4, 5] rfl rfl (fun r w1 hpo => ?_)
                                rcases hpo with ⟨x_120, k1_120, p1_120, n1_120, v1_120, hW_120, hx_120, h8_120, hu_120, hO_120, hP_120, rfl, rfl⟩ | ⟨f_120, hW_120, rfl, rfl⟩
                                · refine ⟨rfl, ?_⟩
                                  refine V.cast (st' := [.int (nI x_120)]) (ws' := [ob hr 4 [.ref (ra 0), .int (nI fd), .ref (ra 2), .ref (ra 3), .int (nI re), .int (nI k1_120), .int (nI p1_120), .int (nI n1_120), .long v1_120, .int (nI (rh).toNat), .ref (ra 10), .ref (ra 11), .ref (ra 12), .int (nI rc), .int (nI rf), .int rw], aB E (ra 0) 900 tp, aL E (ra 2) 6 kwd, aL E (ra 10) 18 nms, aN E (ra 11) 18 nso, aN E (ra 12) 18 nnu, ob (ra 3) 0 [.int (nI (cy 0)), .int (nI (cy 1)), .int (nI (cy 2)), .int (nI (cy 3)), .int (nI (cy 4)), .int (nI (cy 5)), .int (nI (cy 6)), .int (nI (cy 7)), .ref (ca 0), .ref (ca 1), .ref (ca 2), .ref (ca 3), .ref (ca 4), .ref (ca 5), .ref (ca 6), .ref (ca 7), .ref (ca 8), .ref (ca 9), .ref (ca 10), .ref (ca 11)], aN E (ca 8) 6 dm, aN E (ca 9) 6 dy, aN E (ca 10) 6 ds, aZ E (ca 11) 6 dk]) rfl rfl rfl ?_
                                  have hQ_120 : p1_120 ≤ n1_120 := hO_120.2.1
                                  refine v_istore X dX4_readDid_123 (by decide) (lv' := [(7, .int (nI x_120)), (0, .ref hr), (1, .int (nI x_3)), (2, .int (nI x_27)), (3, .int (nI (decide (k1_27 = 1 ∧ v1_27 = lN (pkS 27 18))).toNat)), (4, .int (nI vs)), (5, .int (nI (vm).toNat)), (6, .int (nI vi))]) rfl ?_
                                  refine v_iload X dX4_readDid_125 0 rfl ?_
                                  refine v_iconst X dX4_readDid_127 (v := (-1)) (by decide) ?_
                                  refine v_icmp_ne X dX4_readDid_128 (tgt := 133) (by decide) (fun h128 => ?_) (fun h128 => ?_)
                                  · refine v_iload X dX4_readDid_133 5 rfl ?_
                                    refine v_iconst X dX4_readDid_135 (v := nI 1) (by decide) ?_
                                    refine v_iload X dX4_readDid_136 0 rfl ?_
                                    refine v_ishl X dX4_readDid_138 ?_
                                    refine v_eqi (x' := nI (2 ^ x_120)) (nI_shl1 (by omega)) ?_
                                    refine v_ior X dX4_readDid_139 ?_
                                    refine v_eqi (x' := nI (vs ||| (2 ^ x_120))) (fa_or _ _) ?_
                                    refine v_istore X dX4_readDid_140 (by decide) (lv' := [(4, .int (nI (vs ||| (2 ^ x_120)))), (7, .int (nI x_120)), (0, .ref hr), (1, .int (nI x_3)), (2, .int (nI x_27)), (3, .int (nI (decide (k1_27 = 1 ∧ v1_27 = lN (pkS 27 18))).toNat)), (5, .int (nI (vm).toNat)), (6, .int (nI vi))]) rfl ?_
                                    refine v_aload_n X dX4_readDid_142 rfl 2 rfl ?_
                                    refine v_get X kcX4 fl_X4_90 dX4_readDid_143 0 rfl rfl ?_
                                    refine v_iconst X dX4_readDid_146 (v := nI 4) (by decide) ?_
                                    refine v_icmpN_ne X dX4_readDid_147 (tgt := 154) (by decide) (tk_lt (by assumption)) (by decide) (fun h147 => ?_) (fun h147 => ?_)
                                    · refine v_iconst X dX4_readDid_154 (v := nI 0) (by decide) ?_
                                      refine v_istore X dX4_readDid_155 (by decide) (lv' := [(5, .int (nI 0)), (4, .int (nI (vs ||| (2 ^ x_120)))), (7, .int (nI x_120)), (0, .ref hr), (1, .int (nI x_3)), (2, .int (nI x_27)), (3, .int (nI (decide (k1_27 = 1 ∧ v1_27 = lN (pkS 27 18))).toNat)), (6, .int (nI vi))]) rfl ?_
                                      refine v_iload X dX4_readDid_157 0 rfl ?_
                                      refine v_ifN_eq X dX4_readDid_159 (tgt := 166) (by decide) (by decide) (fun h159 => ?_) (fun h159 => ?_)
                                      · refine v_iinc X dX4_readDid_166 7 rfl (v := nI (vi + 1)) (nI_inc vi) (by decide) (lv' := [(6, .int (nI (vi + 1))), (5, .int (nI 0)), (4, .int (nI (vs ||| (2 ^ x_120)))), (7, .int (nI x_120)), (0, .ref hr), (1, .int (nI x_3)), (2, .int (nI x_27)), (3, .int (nI (decide (k1_27 = 1 ∧ v1_27 = lN (pkS 27 18))).toNat))]) rfl ?_
                                        refine v_goto X dX4_readDid_169 (tgt := 104) (by decide) ?_
                                        refine V.lvs [4, 5, 6, 7, 2, 1, 0] rfl ?_
                                        exact ih104 (vi + 1) false (vs ||| (2 ^ x_120)) k1_120 p1_120 n1_120 v1_120 (⟨by omega, or_256 hvs h8_120, hO_120, by omega, fun z => absurd z (by decide), fun _ => (hm1 h106).trans (by rw [show 7 - vi = (7 - (vi + 1)) + 1 by omega, dsF, hW_120, sb_k, if_neg h147])⟩) (by omega)
                                      · exfalso; omega
                                    · refine v_iconst X dX4_readDid_150 (v := nI 1) (by decide) ?_
                                      refine v_goto X dX4_readDid_151 (tgt := 155) (by decide) ?_
                                      refine v_istore X dX4_readDid_155 (by decide) (lv' := [(5, .int (nI 1)), (4, .int (nI (vs ||| (2 ^ x_120)))), (7, .int (nI x_120)), (0, .ref hr), (1, .int (nI x_3)), (2, .int (nI x_27)), (3, .int (nI (decide (k1_27 = 1 ∧ v1_27 = lN (pkS 27 18))).toNat)), (6, .int (nI vi))]) rfl ?_
                                      refine v_iload X dX4_readDid_157 0 rfl ?_
                                      refine v_ifN_eq X dX4_readDid_159 (tgt := 166) (by decide) (by decide) (fun h159 => ?_) (fun h159 => ?_)
                                      · exfalso; omega
                                      · refine v_aload_n X dX4_readDid_162 rfl 3 rfl ?_
                                        refine v_wr X (rn_V X k_X4_advance ml_X4_83 dX4_readDid_163 (c_X4_advanceA l E hr ra fd re k1_120 p1_120 n1_120 v1_120 rh rc rf rw tp (by first | assumption | omega) (hO_120)) rfl 0 rfl rfl (by decide) (by decide) (by omega) (by omega) (Nat.le_of_ble_eq_true rfl)) [0, 1] rfl rfl (fun r w1 hpo => ?_)
                                        rcases hpo with ⟨k1_163, p1_163, n1_163, v1_163, hA_163, hO_163, hP_163, rfl, rfl⟩
                                        · refine ⟨rfl, ?_⟩
                                          refine V.cast (st' := []) (ws' := [ob hr 4 [.ref (ra 0), .int (nI fd), .ref (ra 2), .ref (ra 3), .int (nI re), .int (nI k1_163), .int (nI p1_163), .int (nI n1_163), .long v1_163, .int (nI (rh).toNat), .ref (ra 10), .ref (ra 11), .ref (ra 12), .int (nI rc), .int (nI rf), .int rw], aB E (ra 0) 900 tp, aL E (ra 2) 6 kwd, aL E (ra 10) 18 nms, aN E (ra 11) 18 nso, aN E (ra 12) 18 nnu, ob (ra 3) 0 [.int (nI (cy 0)), .int (nI (cy 1)), .int (nI (cy 2)), .int (nI (cy 3)), .int (nI (cy 4)), .int (nI (cy 5)), .int (nI (cy 6)), .int (nI (cy 7)), .ref (ca 0), .ref (ca 1), .ref (ca 2), .ref (ca 3), .ref (ca 4), .ref (ca 5), .ref (ca 6), .ref (ca 7), .ref (ca 8), .ref (ca 9), .ref (ca 10), .ref (ca 11)], aN E (ca 8) 6 dm, aN E (ca 9) 6 dy, aN E (ca 10) 6 ds, aZ E (ca 11) 6 dk]) rfl rfl rfl ?_
                                          have hQ_163 : p1_163 ≤ n1_163 := hO_163.2.1
                                          refine v_iinc X dX4_readDid_166 7 rfl (v := nI (vi + 1)) (nI_inc vi) (by decide) (lv' := [(6, .int (nI (vi + 1))), (5, .int (nI 1)), (4, .int (nI (vs ||| (2 ^ x_120)))), (7, .int (nI x_120)), (0, .ref hr), (1, .int (nI x_3)), (2, .int (nI x_27)), (3, .int (nI (decide (k1_27 = 1 ∧ v1_27 = lN (pkS 27 18))).toNat))]) rfl ?_
                                          refine v_goto X dX4_readDid_169 (tgt := 104) (by decide) ?_
                                          refine V.lvs [4, 5, 6, 7, 2, 1, 0] rfl ?_
                                          exact ih104 (vi + 1) true (vs ||| (2 ^ x_120)) k1_163 p1_163 n1_163 v1_163 (⟨by omega, or_256 hvs h8_120, hO_163, by omega, fun _ => (hm1 h106).trans (by rw [show 7 - vi = (7 - (vi + 1)) + 1 by omega, dsF, hW_120, sb_k, if_pos h147]; exact congrArg (dsF tp re kwd (rc, nms, nso, nnu) (7 - (vi + 1)) (vs ||| 2 ^ x_120)) hA_163), fun z => absurd z (by decide)⟩) (by omega)
                                  · exact (nm1 h128 (by omega)).elim
                                · refine ⟨rfl, ?_⟩
                                  refine V.cast (st' := [.int (-1)]) (ws' := [ob hr 4 [.ref (ra 0), .int (nI fd), .ref (ra 2), .ref (ra 3), .int (nI re), .int (nI lk), .int (nI lp), .int (nI ln), .long lv, .int (nI (rh).toNat), .ref (ra 10), .ref (ra 11), .ref (ra 12), .int (nI rc), .int (nI f_120), .int (nI lp)], aB E (ra 0) 900 tp, aL E (ra 2) 6 kwd, aL E (ra 10) 18 nms, aN E (ra 11) 18 nso, aN E (ra 12) 18 nnu, ob (ra 3) 0 [.int (nI (cy 0)), .int (nI (cy 1)), .int (nI (cy 2)), .int (nI (cy 3)), .int (nI (cy 4)), .int (nI (cy 5)), .int (nI (cy 6)), .int (nI (cy 7)), .ref (ca 0), .ref (ca 1), .ref (ca 2), .ref (ca 3), .ref (ca 4), .ref (ca 5), .ref (ca 6), .ref (ca 7), .ref (ca 8), .ref (ca 9), .ref (ca 10), .ref (ca 11)], aN E (ca 8) 6 dm, aN E (ca 9) 6 dy, aN E (ca 10) 6 ds, aZ E (ca 11) 6 dk]) rfl rfl rfl ?_
                                  refine v_istore X dX4_readDid_123 (by decide) (lv' := [(7, .int (-1)), (0, .ref hr), (1, .int (nI x_3)), (2, .int (nI x_27)), (3, .int (nI (decide (k1_27 = 1 ∧ v1_27 = lN (pkS 27 18))).toNat)), (4, .int (nI vs)), (5, .int (nI (vm).toNat)), (6, .int (nI vi))]) rfl ?_
                                  refine v_iload X dX4_readDid_125 0 rfl ?_
                                  refine v_iconst X dX4_readDid_127 (v := (-1)) (by decide) ?_
                                  refine v_icmp_ne X dX4_readDid_128 (tgt := 133) (by decide) (fun h128 => ?_) (fun h128 => ?_)
                                  · exact absurd rfl h128
                                  · refine v_iconst X dX4_readDid_131 (v := nI 0) (by decide) ?_
                                    exact v_zret X Y dX4_readDid_132 (by decide) (Or.inr ⟨f_120, lp, lk, lp, ln, lv, (by unfold didF; rw [hW_3, sb_k, hW_17, sb_k, hW_27, sb_k, kb_1 h51 hA_68, sb_k, (hm1 h106).trans (show dsF tp re kwd (rc, nms, nso, nnu) (7 - vi) vs (lk, lp, ln, lv) = .inl (f_120, lp) by rw [show 7 - vi = (7 - (vi + 1)) + 1 by omega, dsF, hW_120, sb_e]), sb_e]), rfl, rfl⟩) (by omega) (by omega)
                        refine V.lvs [6, 5, 4, 3, 2, 1, 0] rfl ?_
                        exact L104 _ 0 true 0 k1_68 p1_68 n1_68 v1_68 (⟨by omega, by decide, hO_68, hQ9, fun _ => if_neg (fun z => by rcases z with z | z; exact h83 z; exact h91 z), fun z => absurd z (by decide)⟩) (Nat.lt_succ_self _)
                  · exfalso; omega
                · exact absurd hB_68 (by decide)
              · refine v_aload_n X dX4_readDid_54 rfl 3 rfl ?_
                refine v_ldcS X dX4_readDid_55 (i := 19) (tx := "breach") (by decide) ?_
                refine v_roI1 X (rn_V X k_X4_stands ml_X4_130 dX4_readDid_57 (c_X4_stands l E hr ra fd re k1_27 p1_27 n1_27 v1_27 rh rc rf rw 19 (by decide) (hO_27.1)) rfl 0 rfl rfl (by decide) (by decide) (by omega) (by omega) (Nat.le_of_ble_eq_true rfl)) [0] rfl rfl ?_
                refine v_ifB_eq X dX4_readDid_60 (tgt := 67) (by decide) (fun h60 => ?_) (fun h60 => ?_)
                · refine v_iconst X dX4_readDid_67 (v := nI 0) (by decide) ?_
                  refine v_wr X (rn_V X k_X4_passes ml_X4_103 dX4_readDid_68 (c_X4_passesA l E hr ra fd re k1_27 p1_27 n1_27 v1_27 rh rc rf rw tp false (by first | assumption | omega) (by first | assumption | omega)) rfl 0 rfl rfl (by decide) (by decide) (by omega) (by omega) (Nat.le_of_ble_eq_true rfl)) [0, 1] rfl rfl (fun r w1 hpo => ?_)
                  rcases hpo with ⟨k1_68, p1_68, n1_68, v1_68, hB_68, hA_68, hO_68, hP_68, rfl, rfl⟩ | ⟨hB_68, rfl, rfl⟩
                  · exact absurd hB_68 (by decide)
                  · refine ⟨rfl, ?_⟩
                    refine V.cast (st' := [.int (nI 0)]) (ws' := [ob hr 4 [.ref (ra 0), .int (nI fd), .ref (ra 2), .ref (ra 3), .int (nI re), .int (nI k1_27), .int (nI p1_27), .int (nI n1_27), .long v1_27, .int (nI (rh).toNat), .ref (ra 10), .ref (ra 11), .ref (ra 12), .int (nI rc), .int (nI 1), .int (nI p1_27)], aB E (ra 0) 900 tp, aL E (ra 2) 6 kwd, aL E (ra 10) 18 nms, aN E (ra 11) 18 nso, aN E (ra 12) 18 nnu, ob (ra 3) 0 [.int (nI (cy 0)), .int (nI (cy 1)), .int (nI (cy 2)), .int (nI (cy 3)), .int (nI (cy 4)), .int (nI (cy 5)), .int (nI (cy 6)), .int (nI (cy 7)), .ref (ca 0), .ref (ca 1), .ref (ca 2), .ref (ca 3), .ref (ca 4), .ref (ca 5), .ref (ca 6), .ref (ca 7), .ref (ca 8), .ref (ca 9), .ref (ca 10), .ref (ca 11)], aN E (ca 8) 6 dm, aN E (ca 9) 6 dy, aN E (ca 10) 6 ds, aZ E (ca 11) 6 dk]) rfl rfl rfl ?_
                    refine v_ifN_ne X dX4_readDid_71 (tgt := 76) (by decide) (by decide) (fun h71 => ?_) (fun h71 => ?_)
                    · exfalso; omega
                    · refine v_iconst X dX4_readDid_74 (v := nI 0) (by decide) ?_
                      exact v_zret X Y dX4_readDid_75 (by decide) (Or.inr ⟨1, p1_27, k1_27, p1_27, n1_27, v1_27, (by unfold didF; rw [hW_3, sb_k, hW_17, sb_k, hW_27, sb_k, kb_0 h51 h60, sb_e]), rfl, rfl⟩) (by omega) (by omega)
                · refine v_iconst X dX4_readDid_63 (v := nI 1) (by decide) ?_
                  refine v_goto X dX4_readDid_64 (tgt := 68) (by decide) ?_
                  refine v_wr X (rn_V X k_X4_passes ml_X4_103 dX4_readDid_68 (c_X4_passesA l E hr ra fd re k1_27 p1_27 n1_27 v1_27 rh rc rf rw tp true (by first | assumption | omega) (by first | assumption | omega)) rfl 0 rfl rfl (by decide) (by decide) (by omega) (by omega) (Nat.le_of_ble_eq_true rfl)) [0, 1] rfl rfl (fun r w1 hpo => ?_)
                  rcases hpo with ⟨k1_68, p1_68, n1_68, v1_68, hB_68, hA_68, hO_68, hP_68, rfl, rfl⟩ | ⟨hB_68, rfl, rfl⟩
                  · refine ⟨rfl, ?_⟩
                    refine V.cast (st' := [.int (nI 1)]) (ws' := [ob hr 4 [.ref (ra 0), .int (nI fd), .ref (ra 2), .ref (ra 3), .int (nI re), .int (nI k1_68), .int (nI p1_68), .int (nI n1_68), .long v1_68, .int (nI (rh).toNat), .ref (ra 10), .ref (ra 11), .ref (ra 12), .int (nI rc), .int (nI rf), .int rw], aB E (ra 0) 900 tp, aL E (ra 2) 6 kwd, aL E (ra 10) 18 nms, aN E (ra 11) 18 nso, aN E (ra 12) 18 nnu, ob (ra 3) 0 [.int (nI (cy 0)), .int (nI (cy 1)), .int (nI (cy 2)), .int (nI (cy 3)), .int (nI (cy 4)), .int (nI (cy 5)), .int (nI (cy 6)), .int (nI (cy 7)), .ref (ca 0), .ref (ca 1), .ref (ca 2), .ref (ca 3), .ref (ca 4), .ref (ca 5), .ref (ca 6), .ref (ca 7), .ref (ca 8), .ref (ca 9), .ref (ca 10), .ref (ca 11)], aN E (ca 8) 6 dm, aN E (ca 9) 6 dy, aN E (ca 10) 6 ds, aZ E (ca 11) 6 dk]) rfl rfl rfl ?_
                    have hQ_68 : p1_68 ≤ n1_68 := hO_68.2.1
                    have hQ9 : rn ≤ p1_68 := by omega
                    refine v_ifN_ne X dX4_readDid_71 (tgt := 76) (by decide) (by decide) (fun h71 => ?_) (fun h71 => ?_)
                    · refine v_iconst X dX4_readDid_76 (v := nI 0) (by decide) ?_
                      refine v_istore X dX4_readDid_77 (by decide) (lv' := [(4, .int (nI 0)), (3, .int (nI (decide (k1_27 = 1 ∧ v1_27 = lN (pkS 27 18))).toNat)), (2, .int (nI x_27)), (1, .int (nI x_3)), (0, .ref hr)]) rfl ?_
                      refine v_aload_n X dX4_readDid_79 rfl 4 rfl ?_
                      refine v_get X kcX4 fl_X4_90 dX4_readDid_80 0 rfl rfl ?_
                      refine v_ifN_eq X dX4_readDid_83 (tgt := 98) (by decide) (tk_lt (by assumption)) (fun h83 => ?_) (fun h83 => ?_)
                      · refine v_iconst X dX4_readDid_98 (v := nI 0) (by decide) ?_
                        refine v_istore X dX4_readDid_99 (by decide) (lv' := [(5, .int (nI 0)), (4, .int (nI 0)), (3, .int (nI (decide (k1_27 = 1 ∧ v1_27 = lN (pkS 27 18))).toNat)), (2, .int (nI x_27)), (1, .int (nI x_3)), (0, .ref hr)]) rfl ?_
                        refine v_iconst X dX4_readDid_101 (v := nI 0) (by decide) ?_
                        refine v_istore X dX4_readDid_102 (by decide) (lv' := [(6, .int (nI 0)), (5, .int (nI 0)), (4, .int (nI 0)), (3, .int (nI (decide (k1_27 = 1 ∧ v1_27 = lN (pkS 27 18))).toNat)), (2, .int (nI x_27)), (1, .int (nI x_3)), (0, .ref hr)]) rfl ?_
                        have L104 : ∀ (j104 : Nat) (vi : Nat) (vm : Bool) (vs : Nat) (lk : Nat) (lp : Nat) (ln : Nat) (lv : Int64), (vi ≤ 7 ∧ vs < 256 ∧ tkO re (lk, lp, ln, lv) ∧ rn ≤ lp ∧ (vm = true → setF tp re kwd (rc, nms, nso, nnu) (k1_68, p1_68, n1_68, v1_68) = dsF tp re kwd (rc, nms, nso, nnu) (7 - vi) vs (lk, lp, ln, lv)) ∧ (vm = false → setF tp re kwd (rc, nms, nso, nnu) (k1_68, p1_68, n1_68, v1_68) = .inr (vs, (lk, lp, ln, lv)))) → 8 - vi < j104 → V E Z 104 [(0, .ref hr), (1, .int (nI x_3)), (2, .int (nI x_27)), (3, .int (nI (decide (k1_27 = 1 ∧ v1_27 = lN (pkS 27 18))).toNat)), (4, .int (nI vs)), (5, .int (nI (vm).toNat)), (6, .int (nI vi))] [] [ob hr 4 [.ref (ra 0), .int (nI fd), .ref (ra 2), .ref (ra 3), .int (nI re), .int (nI lk), .int (nI lp), .int (nI ln), .long lv, .int (nI (rh).toNat), .ref (ra 10), .ref (ra 11), .ref (ra 12), .int (nI rc), .int (nI rf), .int rw], aB E (ra 0) 900 tp, aL E (ra 2) 6 kwd, aL E (ra 10) 18 nms, aN E (ra 11) 18 nso, aN E (ra 12) 18 nnu, ob (ra 3) 0 [.int (nI (cy 0)), .int (nI (cy 1)), .int (nI (cy 2)), .int (nI (cy 3)), .int (nI (cy 4)), .int (nI (cy 5)), .int (nI (cy 6)), .int (nI (cy 7)), .ref (ca 0), .ref (ca 1), .ref (ca 2), .ref (ca 3), .ref (ca 4), .ref (ca 5), .ref (ca 6), .ref (ca 7), .ref (ca 8), .ref (ca 9), .ref (ca 10), .ref (ca 11)], aN E (ca 8) 6 dm, aN E (ca 9) 6 dy, aN E (ca 10) 6 ds, aZ E (ca 11) 6 dk] 0 0 := by
                          intro j104
                          induction j104 with
                          | zero => intro vi vm vs lk lp ln lv hI hM; exact absurd hM (Nat.not_lt_zero _)
                          | succ j104 ih104 =>
                            intro vi vm vs lk lp ln lv hI104 hM104
                            obtain ⟨hv7, hvs, hlT, hlp, hm1, hm0⟩ := id hI104
                            refine v_iload X dX4_readDid_104 5 rfl ?_
                            refine v_ifB_eq X dX4_readDid_106 (tgt := 172) (by decide) (fun h106 => ?_) (fun h106 => ?_)
                            · have hS9 : setF tp re kwd (rc, nms, nso, nnu) (k1_68, p1_68, n1_68, v1_68) = .inr (vs, (lk, lp, ln, lv)) := hm0 h106
                              refine v_aload_n X dX4_readDid_172 rfl 0 rfl ?_
                              refine v_get X kcX4 fl_X4_48 dX4_readDid_173 0 rfl rfl ?_
                              refine v_iload_n X dX4_readDid_176 rfl 1 rfl ?_
                              refine v_iload_n X dX4_readDid_177 rfl 2 rfl ?_
                              refine v_iload_n X dX4_readDid_178 rfl 3 rfl ?_
                              refine v_iload X dX4_readDid_179 4 rfl ?_
                              refine v_wrV1 X (rn_VN X k_X0_addDid ml_X4_237 dX4_readDid_181 (c_X0_addDid l E (ra 3) cy ca dm dy ds dk x_3 x_27 (decide (k1_27 = 1 ∧ v1_27 = lN (pkS 27 18))) vs (by first | assumption | omega)) rfl 0 rfl rfl (by decide) (by decide) (by omega) (by omega) (Nat.le_of_ble_eq_true rfl)) [6, 7, 8, 9, 10] rfl rfl (ws' := [ob hr 4 [.ref (ra 0), .int (nI fd), .ref (ra 2), .ref (ra 3), .int (nI re), .int (nI lk), .int (nI lp), .int (nI ln), .long lv, .int (nI (rh).toNat), .ref (ra 10), .ref (ra 11), .ref (ra 12), .int (nI rc), .int (nI rf), .int rw], aB E (ra 0) 900 tp, aL E (ra 2) 6 kwd, aL E (ra 10) 18 nms, aN E (ra 11) 18 nso, aN E (ra 12) 18 nnu, ob (ra 3) 0 [.int (nI ((upN cy 7 (cy 7 + 1)) 0)), .int (nI ((upN cy 7 (cy 7 + 1)) 1)), .int (nI ((upN cy 7 (cy 7 + 1)) 2)), .int (nI ((upN cy 7 (cy 7 + 1)) 3)), .int (nI ((upN cy 7 (cy 7 + 1)) 4)), .int (nI ((upN cy 7 (cy 7 + 1)) 5)), .int (nI ((upN cy 7 (cy 7 + 1)) 6)), .int (nI ((upN cy 7 (cy 7 + 1)) 7)), .ref (ca 0), .ref (ca 1), .ref (ca 2), .ref (ca 3), .ref (ca 4), .ref (ca 5), .ref (ca 6), .ref (ca 7), .ref (ca 8), .ref (ca 9), .ref (ca 10), .ref (ca 11)], aN E (ca 8) 6 (upN dm (cy 7) x_3), aN E (ca 9) 6 (upN dy (cy 7) x_27), aN E (ca 10) 6 (upN ds (cy 7) vs), aZ E (ca 11) 6 (upB dk (cy 7) (decide (k1_27 = 1 ∧ v1_27 = lN (pkS 27 18))))]) rfl rfl ?_
                              refine v_iconst X dX4_readDid_184 (v := nI 1) (by decide) ?_
                              exact v_zret X Y dX4_readDid_185 (by decide) (Or.inl ⟨x_3, x_27, (decide (k1_27 = 1 ∧ v1_27 = lN (pkS 27 18))), vs, lk, lp, ln, lv, (by unfold didF; rw [hW_3, sb_k, hW_17, sb_k, hW_27, sb_k, kb_2 h51 h60 hA_68, sb_k, hS9, sb_k]), (hlT), (by omega), (hx_3), (by omega), (hvs), rfl, rfl⟩) (by omega) (by omega)
                            · have hlQ : lp ≤ ln := hlT.2.1
                              refine v_iload X dX4_readDid_109 6 rfl ?_
                              refine v_bipush X dX4_readDid_111 (v := nI 6) (by decide) ?_
                              refine v_icmpN_gt X dX4_readDid_113 (tgt := 172) (by decide) (by omega) (by decide) (fun h113 => ?_) (fun h113 => ?_)
                              · have hS9 : setF tp re kwd (rc, nms, nso, nnu) (k1_68, p1_68, n1_68, v1_68) = .inr (vs, (lk, lp, ln, lv)) := (hm1 h106).trans (by rw [show 7 - vi = 0 by omega, dsF])
                                refine v_aload_n X dX4_readDid_172 rfl 0 rfl ?_
                                refine v_get X kcX4 fl_X4_48 dX4_readDid_173 0 rfl rfl ?_
                                refine v_iload_n X dX4_readDid_176 rfl 1 rfl ?_
                                refine v_iload_n X dX4_readDid_177 rfl 2 rfl ?_
                                refine v_iload_n X dX4_readDid_178 rfl 3 rfl ?_
                                refine v_iload X dX4_readDid_179 4 rfl ?_
                                refine v_wrV1 X (rn_VN X k_X0_addDid ml_X4_237 dX4_readDid_181 (c_X0_addDid l E (ra 3) cy ca dm dy ds dk x_3 x_27 (decide (k1_27 = 1 ∧ v1_27 = lN (pkS 27 18))) vs (by first | assumption | omega)) rfl 0 rfl rfl (by decide) (by decide) (by omega) (by omega) (Nat.le_of_ble_eq_true rfl)) [6, 7, 8, 9, 10] rfl rfl (ws' := [ob hr 4 [.ref (ra 0), .int (nI fd), .ref (ra 2), .ref (ra 3), .int (nI re), .int (nI lk), .int (nI lp), .int (nI ln), .long lv, .int (nI (rh).toNat), .ref (ra 10), .ref (ra 11), .ref (ra 12), .int (nI rc), .int (nI rf), .int rw], aB E (ra 0) 900 tp, aL E (ra 2) 6 kwd, aL E (ra 10) 18 nms, aN E (ra 11) 18 nso, aN E (ra 12) 18 nnu, ob (ra 3) 0 [.int (nI ((upN cy 7 (cy 7 + 1)) 0)), .int (nI ((upN cy 7 (cy 7 + 1)) 1)), .int (nI ((upN cy 7 (cy 7 + 1)) 2)), .int (nI ((upN cy 7 (cy 7 + 1)) 3)), .int (nI ((upN cy 7 (cy 7 + 1)) 4)), .int (nI ((upN cy 7 (cy 7 + 1)) 5)), .int (nI ((upN cy 7 (cy 7 + 1)) 6)), .int (nI ((upN cy 7 (cy 7 + 1)) 7)), .ref (ca 0), .ref (ca 1), .ref (ca 2), .ref (ca 3), .ref (ca 4), .ref (ca 5), .ref (ca 6), .ref (ca 7), .ref (ca 8), .ref (ca 9), .ref (ca 10), .ref (ca 11)], aN E (ca 8) 6 (upN dm (cy 7) x_3), aN E (ca 9) 6 (upN dy (cy 7) x_27), aN E (ca 10) 6 (upN ds (cy 7) vs), aZ E (ca 11) 6 (upB dk (cy 7) (decide (k1_27 = 1 ∧ v1_27 = lN (pkS 27 18))))]) rfl rfl ?_
                                refine v_iconst X dX4_readDid_184 (v := nI 1) (by decide) ?_
                                exact v_zret X Y dX4_readDid_185 (by decide) (Or.inl ⟨x_3, x_27, (decide (k1_27 = 1 ∧ v1_27 = lN (pkS 27 18))), vs, lk, lp, ln, lv, (by unfold didF; rw [hW_3, sb_k, hW_17, sb_k, hW_27, sb_k, kb_2 h51 h60 hA_68, sb_k, hS9, sb_k]), (hlT), (by omega), (hx_3), (by omega), (hvs), rfl, rfl⟩) (by omega) (by omega)
                              · refine v_aload_n X dX4_readDid_116 rfl 0 rfl ?_
                                refine v_iconst X dX4_readDid_117 (v := nI 2) (by decide) ?_
                                refine v_iload X dX4_readDid_118 4 rfl ?_
                                refine v_wr X (rn_V X k_X4_passName ml_X4_200 dX4_readDid_120 (c_X4_passNameA l E hr ra fd re lk lp ln lv rh rc rf rw tp kwd nms nso nnu 2 vs (by first | assumption | omega) (hlT) (by first | assumption | omega) (by decide) (by first | assumption | omega) (by first | assumption | omega) (hvs)) rfl 0 rfl rfl (by decide) (by decide) (by omega) (by omega) (Nat.le_of_ble_eq_true rfl)) [0, 1, 2, 3, 4, 5] rfl rfl (fun r w1 hpo => ?_)
                                rcases hpo with ⟨x_120, k1_120, p1_120, n1_120, v1_120, hW_120, hx_120, h8_120, hu_120, hO_120, hP_120, rfl, rfl⟩ | ⟨f_120, hW_120, rfl, rfl⟩
                                · refine ⟨rfl, ?_⟩
                                  refine V.cast (st' := [.int (nI x_120)]) (ws' := [ob hr 4 [.ref (ra 0), .int (nI fd), .ref (ra 2), .ref (ra 3), .int (nI re), .int (nI k1_120), .int (nI p1_120), .int (nI n1_120), .long v1_120, .int (nI (rh).toNat), .ref (ra 10), .ref (ra 11), .ref (ra 12), .int (nI rc), .int (nI rf), .int rw], aB E (ra 0) 900 tp, aL E (ra 2) 6 kwd, aL E (ra 10) 18 nms, aN E (ra 11) 18 nso, aN E (ra 12) 18 nnu, ob (ra 3) 0 [.int (nI (cy 0)), .int (nI (cy 1)), .int (nI (cy 2)), .int (nI (cy 3)), .int (nI (cy 4)), .int (nI (cy 5)), .int (nI (cy 6)), .int (nI (cy 7)), .ref (ca 0), .ref (ca 1), .ref (ca 2), .ref (ca 3), .ref (ca 4), .ref (ca 5), .ref (ca 6), .ref (ca 7), .ref (ca 8), .ref (ca 9), .ref (ca 10), .ref (ca 11)], aN E (ca 8) 6 dm, aN E (ca 9) 6 dy, aN E (ca 10) 6 ds, aZ E (ca 11) 6 dk]) rfl rfl rfl ?_
                                  have hQ_120 : p1_120 ≤ n1_120 := hO_120.2.1
                                  refine v_istore X dX4_readDid_123 (by decide) (lv' := [(7, .int (nI x_120)), (0, .ref hr), (1, .int (nI x_3)), (2, .int (nI x_27)), (3, .int (nI (decide (k1_27 = 1 ∧ v1_27 = lN (pkS 27 18))).toNat)), (4, .int (nI vs)), (5, .int (nI (vm).toNat)), (6, .int (nI vi))]) rfl ?_
                                  refine v_iload X dX4_readDid_125 0 rfl ?_
                                  refine v_iconst X dX4_readDid_127 (v := (-1)) (by decide) ?_
                                  refine v_icmp_ne X dX4_readDid_128 (tgt := 133) (by decide) (fun h128 => ?_) (fun h128 => ?_)
                                  · refine v_iload X dX4_readDid_133 5 rfl ?_
                                    refine v_iconst X dX4_readDid_135 (v := nI 1) (by decide) ?_
                                    refine v_iload X dX4_readDid_136 0 rfl ?_
                                    refine v_ishl X dX4_readDid_138 ?_
                                    refine v_eqi (x' := nI (2 ^ x_120)) (nI_shl1 (by omega)) ?_
                                    refine v_ior X dX4_readDid_139 ?_
                                    refine v_eqi (x' := nI (vs ||| (2 ^ x_120))) (fa_or _ _) ?_
                                    refine v_istore X dX4_readDid_140 (by decide) (lv' := [(4, .int (nI (vs ||| (2 ^ x_120)))), (7, .int (nI x_120)), (0, .ref hr), (1, .int (nI x_3)), (2, .int (nI x_27)), (3, .int (nI (decide (k1_27 = 1 ∧ v1_27 = lN (pkS 27 18))).toNat)), (5, .int (nI (vm).toNat)), (6, .int (nI vi))]) rfl ?_
                                    refine v_aload_n X dX4_readDid_142 rfl 2 rfl ?_
                                    refine v_get X kcX4 fl_X4_90 dX4_readDid_143 0 rfl rfl ?_
                                    refine v_iconst X dX4_readDid_146 (v := nI 4) (by decide) ?_
                                    refine v_icmpN_ne X dX4_readDid_147 (tgt := 154) (by decide) (tk_lt (by assumption)) (by decide) (fun h147 => ?_) (fun h147 => ?_)
                                    · refine v_iconst X dX4_readDid_154 (v := nI 0) (by decide) ?_
                                      refine v_istore X dX4_readDid_155 (by decide) (lv' := [(5, .int (nI 0)), (4, .int (nI (vs ||| (2 ^ x_120)))), (7, .int (nI x_120)), (0, .ref hr), (1, .int (nI x_3)), (2, .int (nI x_27)), (3, .int (nI (decide (k1_27 = 1 ∧ v1_27 = lN (pkS 27 18))).toNat)), (6, .int (nI vi))]) rfl ?_
                                      refine v_iload X dX4_readDid_157 0 rfl ?_
                                      refine v_ifN_eq X dX4_readDid_159 (tgt := 166) (by decide) (by decide) (fun h159 => ?_) (fun h159 => ?_)
                                      · refine v_iinc X dX4_readDid_166 7 rfl (v := nI (vi + 1)) (nI_inc vi) (by decide) (lv' := [(6, .int (nI (vi + 1))), (5, .int (nI 0)), (4, .int (nI (vs ||| (2 ^ x_120)))), (7, .int (nI x_120)), (0, .ref hr), (1, .int (nI x_3)), (2, .int (nI x_27)), (3, .int (nI (decide (k1_27 = 1 ∧ v1_27 = lN (pkS 27 18))).toNat))]) rfl ?_
                                        refine v_goto X dX4_readDid_169 (tgt := 104) (by decide) ?_
                                        refine V.lvs [4, 5, 6, 7, 2, 1, 0] rfl ?_
                                        exact ih104 (vi + 1) false (vs ||| (2 ^ x_120)) k1_120 p1_120 n1_120 v1_120 (⟨by omega, or_256 hvs h8_120, hO_120, by omega, fun z => absurd z (by decide), fun _ => (hm1 h106).trans (by rw [show 7 - vi = (7 - (vi + 1)) + 1 by omega, dsF, hW_120, sb_k, if_neg h147])⟩) (by omega)
                                      · exfalso; omega
                                    · refine v_iconst X dX4_readDid_150 (v := nI 1) (by decide) ?_
                                      refine v_goto X dX4_readDid_151 (tgt := 155) (by decide) ?_
                                      refine v_istore X dX4_readDid_155 (by decide) (lv' := [(5, .int (nI 1)), (4, .int (nI (vs ||| (2 ^ x_120)))), (7, .int (nI x_120)), (0, .ref hr), (1, .int (nI x_3)), (2, .int (nI x_27)), (3, .int (nI (decide (k1_27 = 1 ∧ v1_27 = lN (pkS 27 18))).toNat)), (6, .int (nI vi))]) rfl ?_
                                      refine v_iload X dX4_readDid_157 0 rfl ?_
                                      refine v_ifN_eq X dX4_readDid_159 (tgt := 166) (by decide) (by decide) (fun h159 => ?_) (fun h159 => ?_)
                                      · exfalso; omega
                                      · refine v_aload_n X dX4_readDid_162 rfl 3 rfl ?_
                                        refine v_wr X (rn_V X k_X4_advance ml_X4_83 dX4_readDid_163 (c_X4_advanceA l E hr ra fd re k1_120 p1_120 n1_120 v1_120 rh rc rf rw tp (by first | assumption | omega) (hO_120)) rfl 0 rfl rfl (by decide) (by decide) (by omega) (by omega) (Nat.le_of_ble_eq_true rfl)) [0, 1] rfl rfl (fun r w1 hpo => ?_)
                                        rcases hpo with ⟨k1_163, p1_163, n1_163, v1_163, hA_163, hO_163, hP_163, rfl, rfl⟩
                                        · refine ⟨rfl, ?_⟩
                                          refine V.cast (st' := []) (ws' := [ob hr 4 [.ref (ra 0), .int (nI fd), .ref (ra 2), .ref (ra 3), .int (nI re), .int (nI k1_163), .int (nI p1_163), .int (nI n1_163), .long v1_163, .int (nI (rh).toNat), .ref (ra 10), .ref (ra 11), .ref (ra 12), .int (nI rc), .int (nI rf), .int rw], aB E (ra 0) 900 tp, aL E (ra 2) 6 kwd, aL E (ra 10) 18 nms, aN E (ra 11) 18 nso, aN E (ra 12) 18 nnu, ob (ra 3) 0 [.int (nI (cy 0)), .int (nI (cy 1)), .int (nI (cy 2)), .int (nI (cy 3)), .int (nI (cy 4)), .int (nI (cy 5)), .int (nI (cy 6)), .int (nI (cy 7)), .ref (ca 0), .ref (ca 1), .ref (ca 2), .ref (ca 3), .ref (ca 4), .ref (ca 5), .ref (ca 6), .ref (ca 7), .ref (ca 8), .ref (ca 9), .ref (ca 10), .ref (ca 11)], aN E (ca 8) 6 dm, aN E (ca 9) 6 dy, aN E (ca 10) 6 ds, aZ E (ca 11) 6 dk]) rfl rfl rfl ?_
                                          have hQ_163 : p1_163 ≤ n1_163 := hO_163.2.1
                                          refine v_iinc X dX4_readDid_166 7 rfl (v := nI (vi + 1)) (nI_inc vi) (by decide) (lv' := [(6, .int (nI (vi + 1))), (5, .int (nI 1)), (4, .int (nI (vs ||| (2 ^ x_120)))), (7, .int (nI x_120)), (0, .ref hr), (1, .int (nI x_3)), (2, .int (nI x_27)), (3, .int (nI (decide (k1_27 = 1 ∧ v1_27 = lN (pkS 27 18))).toNat))]) rfl ?_
                                          refine v_goto X dX4_readDid_169 (tgt := 104) (by decide) ?_
                                          refine V.lvs [4, 5, 6, 7, 2, 1, 0] rfl ?_
                                          exact ih104 (vi + 1) true (vs ||| (2 ^ x_120)) k1_163 p1_163 n1_163 v1_163 (⟨by omega, or_256 hvs h8_120, hO_163, by omega, fun _ => (hm1 h106).trans (by rw [show 7 - vi = (7 - (vi + 1)) + 1 by omega, dsF, hW_120, sb_k, if_pos h147]; exact congrArg (dsF tp re kwd (rc, nms, nso, nnu) (7 - (vi + 1)) (vs ||| 2 ^ x_120)) hA_163), fun z => absurd z (by decide)⟩) (by omega)
                                  · exact (nm1 h128 (by omega)).elim
                                · refine ⟨rfl, ?_⟩
                                  refine V.cast (st' := [.int (-1)]) (ws' := [ob hr 4 [.ref (ra 0), .int (nI fd), .ref (ra 2), .ref (ra 3), .int (nI re), .int (nI lk), .int (nI lp), .int (nI ln), .long lv, .int (nI (rh).toNat), .ref (ra 10), .ref (ra 11), .ref (ra 12), .int (nI rc), .int (nI f_120), .int (nI lp)], aB E (ra 0) 900 tp, aL E (ra 2) 6 kwd, aL E (ra 10) 18 nms, aN E (ra 11) 18 nso, aN E (ra 12) 18 nnu, ob (ra 3) 0 [.int (nI (cy 0)), .int (nI (cy 1)), .int (nI (cy 2)), .int (nI (cy 3)), .int (nI (cy 4)), .int (nI (cy 5)), .int (nI (cy 6)), .int (nI (cy 7)), .ref (ca 0), .ref (ca 1), .ref (ca 2), .ref (ca 3), .ref (ca 4), .ref (ca 5), .ref (ca 6), .ref (ca 7), .ref (ca 8), .ref (ca 9), .ref (ca 10), .ref (ca 11)], aN E (ca 8) 6 dm, aN E (ca 9) 6 dy, aN E (ca 10) 6 ds, aZ E (ca 11) 6 dk]) rfl rfl rfl ?_
                                  refine v_istore X dX4_readDid_123 (by decide) (lv' := [(7, .int (-1)), (0, .ref hr), (1, .int (nI x_3)), (2, .int (nI x_27)), (3, .int (nI (decide (k1_27 = 1 ∧ v1_27 = lN (pkS 27 18))).toNat)), (4, .int (nI vs)), (5, .int (nI (vm).toNat)), (6, .int (nI vi))]) rfl ?_
                                  refine v_iload X dX4_readDid_125 0 rfl ?_
                                  refine v_iconst X dX4_readDid_127 (v := (-1)) (by decide) ?_
                                  refine v_icmp_ne X dX4_readDid_128 (tgt := 133) (by decide) (fun h128 => ?_) (fun h128 => ?_)
                                  · exact absurd rfl h128
                                  · refine v_iconst X dX4_readDid_131 (v := nI 0) (by decide) ?_
                                    exact v_zret X Y dX4_readDid_132 (by decide) (Or.inr ⟨f_120, lp, lk, lp, ln, lv, (by unfold didF; rw [hW_3, sb_k, hW_17, sb_k, hW_27, sb_k, kb_2 h51 h60 hA_68, sb_k, (hm1 h106).trans (show dsF tp re kwd (rc, nms, nso, nnu) (7 - vi) vs (lk, lp, ln, lv) = .inl (f_120, lp) by rw [show 7 - vi = (7 - (vi + 1)) + 1 by omega, dsF, hW_120, sb_e]), sb_e]), rfl, rfl⟩) (by omega) (by omega)
                        refine V.lvs [6, 5, 4, 3, 2, 1, 0] rfl ?_
                        exact L104 _ 0 false 0 k1_68 p1_68 n1_68 v1_68 (⟨by omega, by decide, hO_68, hQ9, fun z => absurd z (by decide), fun _ => if_pos (Or.inl h83)⟩) (Nat.lt_succ_self _)
                      · refine v_aload_n X dX4_readDid_86 rfl 4 rfl ?_
                        refine v_get X kcX4 fl_X4_90 dX4_readDid_87 0 rfl rfl ?_
                        refine v_iconst X dX4_readDid_90 (v := nI 3) (by decide) ?_
                        refine v_icmpN_eq X dX4_readDid_91 (tgt := 98) (by decide) (tk_lt (by assumption)) (by decide) (fun h91 => ?_) (fun h91 => ?_)
                        · refine v_iconst X dX4_readDid_98 (v := nI 0) (by decide) ?_
                          refine v_istore X dX4_readDid_99 (by decide) (lv' := [(5, .int (nI 0)), (4, .int (nI 0)), (3, .int (nI (decide (k1_27 = 1 ∧ v1_27 = lN (pkS 27 18))).toNat)), (2, .int (nI x_27)), (1, .int (nI x_3)), (0, .ref hr)]) rfl ?_
                          refine v_iconst X dX4_readDid_101 (v := nI 0) (by decide) ?_
                          refine v_istore X dX4_readDid_102 (by decide) (lv' := [(6, .int (nI 0)), (5, .int (nI 0)), (4, .int (nI 0)), (3, .int (nI (decide (k1_27 = 1 ∧ v1_27 = lN (pkS 27 18))).toNat)), (2, .int (nI x_27)), (1, .int (nI x_3)), (0, .ref hr)]) rfl ?_
                          have L104 : ∀ (j104 : Nat) (vi : Nat) (vm : Bool) (vs : Nat) (lk : Nat) (lp : Nat) (ln : Nat) (lv : Int64), (vi ≤ 7 ∧ vs < 256 ∧ tkO re (lk, lp, ln, lv) ∧ rn ≤ lp ∧ (vm = true → setF tp re kwd (rc, nms, nso, nnu) (k1_68, p1_68, n1_68, v1_68) = dsF tp re kwd (rc, nms, nso, nnu) (7 - vi) vs (lk, lp, ln, lv)) ∧ (vm = false → setF tp re kwd (rc, nms, nso, nnu) (k1_68, p1_68, n1_68, v1_68) = .inr (vs, (lk, lp, ln, lv)))) → 8 - vi < j104 → V E Z 104 [(0, .ref hr), (1, .int (nI x_3)), (2, .int (nI x_27)), (3, .int (nI (decide (k1_27 = 1 ∧ v1_27 = lN (pkS 27 18))).toNat)), (4, .int (nI vs)), (5, .int (nI (vm).toNat)), (6, .int (nI vi))] [] [ob hr 4 [.ref (ra 0), .int (nI fd), .ref (ra 2), .ref (ra 3), .int (nI re), .int (nI lk), .int (nI lp), .int (nI ln), .long lv, .int (nI (rh).toNat), .ref (ra 10), .ref (ra 11), .ref (ra 12), .int (nI rc), .int (nI rf), .int rw], aB E (ra 0) 900 tp, aL E (ra 2) 6 kwd, aL E (ra 10) 18 nms, aN E (ra 11) 18 nso, aN E (ra 12) 18 nnu, ob (ra 3) 0 [.int (nI (cy 0)), .int (nI (cy 1)), .int (nI (cy 2)), .int (nI (cy 3)), .int (nI (cy 4)), .int (nI (cy 5)), .int (nI (cy 6)), .int (nI (cy 7)), .ref (ca 0), .ref (ca 1), .ref (ca 2), .ref (ca 3), .ref (ca 4), .ref (ca 5), .ref (ca 6), .ref (ca 7), .ref (ca 8), .ref (ca 9), .ref (ca 10), .ref (ca 11)], aN E (ca 8) 6 dm, aN E (ca 9) 6 dy, aN E (ca 10) 6 ds, aZ E (ca 11) 6 dk] 0 0 := by
                            intro j104
                            induction j104 with
                            | zero => intro vi vm vs lk lp ln lv hI hM; exact absurd hM (Nat.not_lt_zero _)
                            | succ j104 ih104 =>
                              intro vi vm vs lk lp ln lv hI104 hM104
                              obtain ⟨hv7, hvs, hlT, hlp, hm1, hm0⟩ := id hI104
                              refine v_iload X dX4_readDid_104 5 rfl ?_
                              refine v_ifB_eq X dX4_readDid_106 (tgt := 172) (by decide) (fun h106 => ?_) (fun h106 => ?_)
                              · have hS9 : setF tp re kwd (rc, nms, nso, nnu) (k1_68, p1_68, n1_68, v1_68) = .inr (vs, (lk, lp, ln, lv)) := hm0 h106
                                refine v_aload_n X dX4_readDid_172 rfl 0 rfl ?_
                                refine v_get X kcX4 fl_X4_48 dX4_readDid_173 0 rfl rfl ?_
                                refine v_iload_n X dX4_readDid_176 rfl 1 rfl ?_
                                refine v_iload_n X dX4_readDid_177 rfl 2 rfl ?_
                                refine v_iload_n X dX4_readDid_178 rfl 3 rfl ?_
                                refine v_iload X dX4_readDid_179 4 rfl ?_
                                refine v_wrV1 X (rn_VN X k_X0_addDid ml_X4_237 dX4_readDid_181 (c_X0_addDid l E (ra 3) cy ca dm dy ds dk x_3 x_27 (decide (k1_27 = 1 ∧ v1_27 = lN (pkS 27 18))) vs (by first | assumption | omega)) rfl 0 rfl rfl (by decide) (by decide) (by omega) (by omega) (Nat.le_of_ble_eq_true rfl)) [6, 7, 8, 9, 10] rfl rfl (ws' := [ob hr 4 [.ref (ra 0), .int (nI fd), .ref (ra 2), .ref (ra 3), .int (nI re), .int (nI lk), .int (nI lp), .int (nI ln), .long lv, .int (nI (rh).toNat), .ref (ra 10), .ref (ra 11), .ref (ra 12), .int (nI rc), .int (nI rf), .int rw], aB E (ra 0) 900 tp, aL E (ra 2) 6 kwd, aL E (ra 10) 18 nms, aN E (ra 11) 18 nso, aN E (ra 12) 18 nnu, ob (ra 3) 0 [.int (nI ((upN cy 7 (cy 7 + 1)) 0)), .int (nI ((upN cy 7 (cy 7 + 1)) 1)), .int (nI ((upN cy 7 (cy 7 + 1)) 2)), .int (nI ((upN cy 7 (cy 7 + 1)) 3)), .int (nI ((upN cy 7 (cy 7 + 1)) 4)), .int (nI ((upN cy 7 (cy 7 + 1)) 5)), .int (nI ((upN cy 7 (cy 7 + 1)) 6)), .int (nI ((upN cy 7 (cy 7 + 1)) 7)), .ref (ca 0), .ref (ca 1), .ref (ca 2), .ref (ca 3), .ref (ca 4), .ref (ca 5), .ref (ca 6), .ref (ca 7), .ref (ca 8), .ref (ca 9), .ref (ca 10), .ref (ca 11)], aN E (ca 8) 6 (upN dm (cy 7) x_3), aN E (ca 9) 6 (upN dy (cy 7) x_27), aN E (ca 10) 6 (upN ds (cy 7) vs), aZ E (ca 11) 6 (upB dk (cy 7) (decide (k1_27 = 1 ∧ v1_27 = lN (pkS 27 18))))]) rfl rfl ?_
                                refine v_iconst X dX4_readDid_184 (v := nI 1) (by decide) ?_
                                exact v_zret X Y dX4_readDid_185 (by decide) (Or.inl ⟨x_3, x_27, (decide (k1_27 = 1 ∧ v1_27 = lN (pkS 27 18))), vs, lk, lp, ln, lv, (by unfold didF; rw [hW_3, sb_k, hW_17, sb_k, hW_27, sb_k, kb_2 h51 h60 hA_68, sb_k, hS9, sb_k]), (hlT), (by omega), (hx_3), (by omega), (hvs), rfl, rfl⟩) (by omega) (by omega)
                              · have hlQ : lp ≤ ln := hlT.2.1
                                refine v_iload X dX4_readDid_109 6 rfl ?_
                                refine v_bipush X dX4_readDid_111 (v := nI 6) (by decide) ?_
                                refine v_icmpN_gt X dX4_readDid_113 (tgt := 172) (by decide) (by omega) (by decide) (fun h113 => ?_) (fun h113 => ?_)
                                · have hS9 : setF tp re kwd (rc, nms, nso, nnu) (k1_68, p1_68, n1_68, v1_68) = .inr (vs, (lk, lp, ln, lv)) := (hm1 h106).trans (by rw [show 7 - vi = 0 by omega, dsF])
                                  refine v_aload_n X dX4_readDid_172 rfl 0 rfl ?_
                                  refine v_get X kcX4 fl_X4_48 dX4_readDid_173 0 rfl rfl ?_
                                  refine v_iload_n X dX4_readDid_176 rfl 1 rfl ?_
                                  refine v_iload_n X dX4_readDid_177 rfl 2 rfl ?_
                                  refine v_iload_n X dX4_readDid_178 rfl 3 rfl ?_
                                  refine v_iload X dX4_readDid_179 4 rfl ?_
                                  refine v_wrV1 X (rn_VN X k_X0_addDid ml_X4_237 dX4_readDid_181 (c_X0_addDid l E (ra 3) cy ca dm dy ds dk x_3 x_27 (decide (k1_27 = 1 ∧ v1_27 = lN (pkS 27 18))) vs (by first | assumption | omega)) rfl 0 rfl rfl (by decide) (by decide) (by omega) (by omega) (Nat.le_of_ble_eq_true rfl)) [6, 7, 8, 9, 10] rfl rfl (ws' := [ob hr 4 [.ref (ra 0), .int (nI fd), .ref (ra 2), .ref (ra 3), .int (nI re), .int (nI lk), .int (nI lp), .int (nI ln), .long lv, .int (nI (rh).toNat), .ref (ra 10), .ref (ra 11), .ref (ra 12), .int (nI rc), .int (nI rf), .int rw], aB E (ra 0) 900 tp, aL E (ra 2) 6 kwd, aL E (ra 10) 18 nms, aN E (ra 11) 18 nso, aN E (ra 12) 18 nnu, ob (ra 3) 0 [.int (nI ((upN cy 7 (cy 7 + 1)) 0)), .int (nI ((upN cy 7 (cy 7 + 1)) 1)), .int (nI ((upN cy 7 (cy 7 + 1)) 2)), .int (nI ((upN cy 7 (cy 7 + 1)) 3)), .int (nI ((upN cy 7 (cy 7 + 1)) 4)), .int (nI ((upN cy 7 (cy 7 + 1)) 5)), .int (nI ((upN cy 7 (cy 7 + 1)) 6)), .int (nI ((upN cy 7 (cy 7 + 1)) 7)), .ref (ca 0), .ref (ca 1), .ref (ca 2), .ref (ca 3), .ref (ca 4), .ref (ca 5), .ref (ca 6), .ref (ca 7), .ref (ca 8), .ref (ca 9), .ref (ca 10), .ref (ca 11)], aN E (ca 8) 6 (upN dm (cy 7) x_3), aN E (ca 9) 6 (upN dy (cy 7) x_27), aN E (ca 10) 6 (upN ds (cy 7) vs), aZ E (ca 11) 6 (upB dk (cy 7) (decide (k1_27 = 1 ∧ v1_27 = lN (pkS 27 18))))]) rfl rfl ?_
                                  refine v_iconst X dX4_readDid_184 (v := nI 1) (by decide) ?_
                                  exact v_zret X Y dX4_readDid_185 (by decide) (Or.inl ⟨x_3, x_27, (decide (k1_27 = 1 ∧ v1_27 = lN (pkS 27 18))), vs, lk, lp, ln, lv, (by unfold didF; rw [hW_3, sb_k, hW_17, sb_k, hW_27, sb_k, kb_2 h51 h60 hA_68, sb_k, hS9, sb_k]), (hlT), (by omega), (hx_3), (by omega), (hvs), rfl, rfl⟩) (by omega) (by omega)
                                · refine v_aload_n X dX4_readDid_116 rfl 0 rfl ?_
                                  refine v_iconst X dX4_readDid_117 (v := nI 2) (by decide) ?_
                                  refine v_iload X dX4_readDid_118 4 rfl ?_
                                  refine v_wr X (rn_V X k_X4_passName ml_X4_200 dX4_readDid_120 (c_X4_passNameA l E hr ra fd re lk lp ln lv rh rc rf rw tp kwd nms nso nnu 2 vs (by first | assumption | omega) (hlT) (by first | assumption | omega) (by decide) (by first | assumption | omega) (by first | assumption | omega) (hvs)) rfl 0 rfl rfl (by decide) (by decide) (by omega) (by omega) (Nat.le_of_ble_eq_true rfl)) [0, 1, 2, 3, 4, 5] rfl rfl (fun r w1 hpo => ?_)
                                  rcases hpo with ⟨x_120, k1_120, p1_120, n1_120, v1_120, hW_120, hx_120, h8_120, hu_120, hO_120, hP_120, rfl, rfl⟩ | ⟨f_120, hW_120, rfl, rfl⟩
                                  · refine ⟨rfl, ?_⟩
                                    refine V.cast (st' := [.int (nI x_120)]) (ws' := [ob hr 4 [.ref (ra 0), .int (nI fd), .ref (ra 2), .ref (ra 3), .int (nI re), .int (nI k1_120), .int (nI p1_120), .int (nI n1_120), .long v1_120, .int (nI (rh).toNat), .ref (ra 10), .ref (ra 11), .ref (ra 12), .int (nI rc), .int (nI rf), .int rw], aB E (ra 0) 900 tp, aL E (ra 2) 6 kwd, aL E (ra 10) 18 nms, aN E (ra 11) 18 nso, aN E (ra 12) 18 nnu, ob (ra 3) 0 [.int (nI (cy 0)), .int (nI (cy 1)), .int (nI (cy 2)), .int (nI (cy 3)), .int (nI (cy 4)), .int (nI (cy 5)), .int (nI (cy 6)), .int (nI (cy 7)), .ref (ca 0), .ref (ca 1), .ref (ca 2), .ref (ca 3), .ref (ca 4), .ref (ca 5), .ref (ca 6), .ref (ca 7), .ref (ca 8), .ref (ca 9), .ref (ca 10), .ref (ca 11)], aN E (ca 8) 6 dm, aN E (ca 9) 6 dy, aN E (ca 10) 6 ds, aZ E (ca 11) 6 dk]) rfl rfl rfl ?_
                                    have hQ_120 : p1_120 ≤ n1_120 := hO_120.2.1
                                    refine v_istore X dX4_readDid_123 (by decide) (lv' := [(7, .int (nI x_120)), (0, .ref hr), (1, .int (nI x_3)), (2, .int (nI x_27)), (3, .int (nI (decide (k1_27 = 1 ∧ v1_27 = lN (pkS 27 18))).toNat)), (4, .int (nI vs)), (5, .int (nI (vm).toNat)), (6, .int (nI vi))]) rfl ?_
                                    refine v_iload X dX4_readDid_125 0 rfl ?_
                                    refine v_iconst X dX4_readDid_127 (v := (-1)) (by decide) ?_
                                    refine v_icmp_ne X dX4_readDid_128 (tgt := 133) (by decide) (fun h128 => ?_) (fun h128 => ?_)
                                    · refine v_iload X dX4_readDid_133 5 rfl ?_
                                      refine v_iconst X dX4_readDid_135 (v := nI 1) (by decide) ?_
                                      refine v_iload X dX4_readDid_136 0 rfl ?_
                                      refine v_ishl X dX4_readDid_138 ?_
                                      refine v_eqi (x' := nI (2 ^ x_120)) (nI_shl1 (by omega)) ?_
                                      refine v_ior X dX4_readDid_139 ?_
                                      refine v_eqi (x' := nI (vs ||| (2 ^ x_120))) (fa_or _ _) ?_
                                      refine v_istore X dX4_readDid_140 (by decide) (lv' := [(4, .int (nI (vs ||| (2 ^ x_120)))), (7, .int (nI x_120)), (0, .ref hr), (1, .int (nI x_3)), (2, .int (nI x_27)), (3, .int (nI (decide (k1_27 = 1 ∧ v1_27 = lN (pkS 27 18))).toNat)), (5, .int (nI (vm).toNat)), (6, .int (nI vi))]) rfl ?_
                                      refine v_aload_n X dX4_readDid_142 rfl 2 rfl ?_
                                      refine v_get X kcX4 fl_X4_90 dX4_readDid_143 0 rfl rfl ?_
                                      refine v_iconst X dX4_readDid_146 (v := nI 4) (by decide) ?_
                                      refine v_icmpN_ne X dX4_readDid_147 (tgt := 154) (by decide) (tk_lt (by assumption)) (by decide) (fun h147 => ?_) (fun h147 => ?_)
                                      · refine v_iconst X dX4_readDid_154 (v := nI 0) (by decide) ?_
                                        refine v_istore X dX4_readDid_155 (by decide) (lv' := [(5, .int (nI 0)), (4, .int (nI (vs ||| (2 ^ x_120)))), (7, .int (nI x_120)), (0, .ref hr), (1, .int (nI x_3)), (2, .int (nI x_27)), (3, .int (nI (decide (k1_27 = 1 ∧ v1_27 = lN (pkS 27 18))).toNat)), (6, .int (nI vi))]) rfl ?_
                                        refine v_iload X dX4_readDid_157 0 rfl ?_
                                        refine v_ifN_eq X dX4_readDid_159 (tgt := 166) (by decide) (by decide) (fun h159 => ?_) (fun h159 => ?_)
                                        · refine v_iinc X dX4_readDid_166 7 rfl (v := nI (vi + 1)) (nI_inc vi) (by decide) (lv' := [(6, .int (nI (vi + 1))), (5, .int (nI 0)), (4, .int (nI (vs ||| (2 ^ x_120)))), (7, .int (nI x_120)), (0, .ref hr), (1, .int (nI x_3)), (2, .int (nI x_27)), (3, .int (nI (decide (k1_27 = 1 ∧ v1_27 = lN (pkS 27 18))).toNat))]) rfl ?_
                                          refine v_goto X dX4_readDid_169 (tgt := 104) (by decide) ?_
                                          refine V.lvs [4, 5, 6, 7, 2, 1, 0] rfl ?_
                                          exact ih104 (vi + 1) false (vs ||| (2 ^ x_120)) k1_120 p1_120 n1_120 v1_120 (⟨by omega, or_256 hvs h8_120, hO_120, by omega, fun z => absurd z (by decide), fun _ => (hm1 h106).trans (by rw [show 7 - vi = (7 - (vi + 1)) + 1 by omega, dsF, hW_120, sb_k, if_neg h147])⟩) (by omega)
                                        · exfalso; omega
                                      · refine v_iconst X dX4_readDid_150 (v := nI 1) (by decide) ?_
                                        refine v_goto X dX4_readDid_151 (tgt := 155) (by decide) ?_
                                        refine v_istore X dX4_readDid_155 (by decide) (lv' := [(5, .int (nI 1)), (4, .int (nI (vs ||| (2 ^ x_120)))), (7, .int (nI x_120)), (0, .ref hr), (1, .int (nI x_3)), (2, .int (nI x_27)), (3, .int (nI (decide (k1_27 = 1 ∧ v1_27 = lN (pkS 27 18))).toNat)), (6, .int (nI vi))]) rfl ?_
                                        refine v_iload X dX4_readDid_157 0 rfl ?_
                                        refine v_ifN_eq X dX4_readDid_159 (tgt := 166) (by decide) (by decide) (fun h159 => ?_) (fun h159 => ?_)
                                        · exfalso; omega
                                        · refine v_aload_n X dX4_readDid_162 rfl 3 rfl ?_
                                          refine v_wr X (rn_V X k_X4_advance ml_X4_83 dX4_readDid_163 (c_X4_advanceA l E hr ra fd re k1_120 p1_120 n1_120 v1_120 rh rc rf rw tp (by first | assumption | omega) (hO_120)) rfl 0 rfl rfl (by decide) (by decide) (by omega) (by omega) (Nat.le_of_ble_eq_true rfl)) [0, 1] rfl rfl (fun r w1 hpo => ?_)
                                          rcases hpo with ⟨k1_163, p1_163, n1_163, v1_163, hA_163, hO_163, hP_163, rfl, rfl⟩
                                          · refine ⟨rfl, ?_⟩
                                            refine V.cast (st' := []) (ws' := [ob hr 4 [.ref (ra 0), .int (nI fd), .ref (ra 2), .ref (ra 3), .int (nI re), .int (nI k1_163), .int (nI p1_163), .int (nI n1_163), .long v1_163, .int (nI (rh).toNat), .ref (ra 10), .ref (ra 11), .ref (ra 12), .int (nI rc), .int (nI rf), .int rw], aB E (ra 0) 900 tp, aL E (ra 2) 6 kwd, aL E (ra 10) 18 nms, aN E (ra 11) 18 nso, aN E (ra 12) 18 nnu, ob (ra 3) 0 [.int (nI (cy 0)), .int (nI (cy 1)), .int (nI (cy 2)), .int (nI (cy 3)), .int (nI (cy 4)), .int (nI (cy 5)), .int (nI (cy 6)), .int (nI (cy 7)), .ref (ca 0), .ref (ca 1), .ref (ca 2), .ref (ca 3), .ref (ca 4), .ref (ca 5), .ref (ca 6), .ref (ca 7), .ref (ca 8), .ref (ca 9), .ref (ca 10), .ref (ca 11)], aN E (ca 8) 6 dm, aN E (ca 9) 6 dy, aN E (ca 10) 6 ds, aZ E (ca 11) 6 dk]) rfl rfl rfl ?_
                                            have hQ_163 : p1_163 ≤ n1_163 := hO_163.2.1
                                            refine v_iinc X dX4_readDid_166 7 rfl (v := nI (vi + 1)) (nI_inc vi) (by decide) (lv' := [(6, .int (nI (vi + 1))), (5, .int (nI 1)), (4, .int (nI (vs ||| (2 ^ x_120)))), (7, .int (nI x_120)), (0, .ref hr), (1, .int (nI x_3)), (2, .int (nI x_27)), (3, .int (nI (decide (k1_27 = 1 ∧ v1_27 = lN (pkS 27 18))).toNat))]) rfl ?_
                                            refine v_goto X dX4_readDid_169 (tgt := 104) (by decide) ?_
                                            refine V.lvs [4, 5, 6, 7, 2, 1, 0] rfl ?_
                                            exact ih104 (vi + 1) true (vs ||| (2 ^ x_120)) k1_163 p1_163 n1_163 v1_163 (⟨by omega, or_256 hvs h8_120, hO_163, by omega, fun _ => (hm1 h106).trans (by rw [show 7 - vi = (7 - (vi + 1)) + 1 by omega, dsF, hW_120, sb_k, if_pos h147]; exact congrArg (dsF tp re kwd (rc, nms, nso, nnu) (7 - (vi + 1)) (vs ||| 2 ^ x_120)) hA_163), fun z => absurd z (by decide)⟩) (by omega)
                                    · exact (nm1 h128 (by omega)).elim
                                  · refine ⟨rfl, ?_⟩
                                    refine V.cast (st' := [.int (-1)]) (ws' := [ob hr 4 [.ref (ra 0), .int (nI fd), .ref (ra 2), .ref (ra 3), .int (nI re), .int (nI lk), .int (nI lp), .int (nI ln), .long lv, .int (nI (rh).toNat), .ref (ra 10), .ref (ra 11), .ref (ra 12), .int (nI rc), .int (nI f_120), .int (nI lp)], aB E (ra 0) 900 tp, aL E (ra 2) 6 kwd, aL E (ra 10) 18 nms, aN E (ra 11) 18 nso, aN E (ra 12) 18 nnu, ob (ra 3) 0 [.int (nI (cy 0)), .int (nI (cy 1)), .int (nI (cy 2)), .int (nI (cy 3)), .int (nI (cy 4)), .int (nI (cy 5)), .int (nI (cy 6)), .int (nI (cy 7)), .ref (ca 0), .ref (ca 1), .ref (ca 2), .ref (ca 3), .ref (ca 4), .ref (ca 5), .ref (ca 6), .ref (ca 7), .ref (ca 8), .ref (ca 9), .ref (ca 10), .ref (ca 11)], aN E (ca 8) 6 dm, aN E (ca 9) 6 dy, aN E (ca 10) 6 ds, aZ E (ca 11) 6 dk]) rfl rfl rfl ?_
                                    refine v_istore X dX4_readDid_123 (by decide) (lv' := [(7, .int (-1)), (0, .ref hr), (1, .int (nI x_3)), (2, .int (nI x_27)), (3, .int (nI (decide (k1_27 = 1 ∧ v1_27 = lN (pkS 27 18))).toNat)), (4, .int (nI vs)), (5, .int (nI (vm).toNat)), (6, .int (nI vi))]) rfl ?_
                                    refine v_iload X dX4_readDid_125 0 rfl ?_
                                    refine v_iconst X dX4_readDid_127 (v := (-1)) (by decide) ?_
                                    refine v_icmp_ne X dX4_readDid_128 (tgt := 133) (by decide) (fun h128 => ?_) (fun h128 => ?_)
                                    · exact absurd rfl h128
                                    · refine v_iconst X dX4_readDid_131 (v := nI 0) (by decide) ?_
                                      exact v_zret X Y dX4_readDid_132 (by decide) (Or.inr ⟨f_120, lp, lk, lp, ln, lv, (by unfold didF; rw [hW_3, sb_k, hW_17, sb_k, hW_27, sb_k, kb_2 h51 h60 hA_68, sb_k, (hm1 h106).trans (show dsF tp re kwd (rc, nms, nso, nnu) (7 - vi) vs (lk, lp, ln, lv) = .inl (f_120, lp) by rw [show 7 - vi = (7 - (vi + 1)) + 1 by omega, dsF, hW_120, sb_e]), sb_e]), rfl, rfl⟩) (by omega) (by omega)
                          refine V.lvs [6, 5, 4, 3, 2, 1, 0] rfl ?_
                          exact L104 _ 0 false 0 k1_68 p1_68 n1_68 v1_68 (⟨by omega, by decide, hO_68, hQ9, fun z => absurd z (by decide), fun _ => if_pos (Or.inr h91)⟩) (Nat.lt_succ_self _)
                        · refine v_iconst X dX4_readDid_94 (v := nI 1) (by decide) ?_
                          refine v_goto X dX4_readDid_95 (tgt := 99) (by decide) ?_
                          refine v_istore X dX4_readDid_99 (by decide) (lv' := [(5, .int (nI 1)), (4, .int (nI 0)), (3, .int (nI (decide (k1_27 = 1 ∧ v1_27 = lN (pkS 27 18))).toNat)), (2, .int (nI x_27)), (1, .int (nI x_3)), (0, .ref hr)]) rfl ?_
                          refine v_iconst X dX4_readDid_101 (v := nI 0) (by decide) ?_
                          refine v_istore X dX4_readDid_102 (by decide) (lv' := [(6, .int (nI 0)), (5, .int (nI 1)), (4, .int (nI 0)), (3, .int (nI (decide (k1_27 = 1 ∧ v1_27 = lN (pkS 27 18))).toNat)), (2, .int (nI x_27)), (1, .int (nI x_3)), (0, .ref hr)]) rfl ?_
                          have L104 : ∀ (j104 : Nat) (vi : Nat) (vm : Bool) (vs : Nat) (lk : Nat) (lp : Nat) (ln : Nat) (lv : Int64), (vi ≤ 7 ∧ vs < 256 ∧ tkO re (lk, lp, ln, lv) ∧ rn ≤ lp ∧ (vm = true → setF tp re kwd (rc, nms, nso, nnu) (k1_68, p1_68, n1_68, v1_68) = dsF tp re kwd (rc, nms, nso, nnu) (7 - vi) vs (lk, lp, ln, lv)) ∧ (vm = false → setF tp re kwd (rc, nms, nso, nnu) (k1_68, p1_68, n1_68, v1_68) = .inr (vs, (lk, lp, ln, lv)))) → 8 - vi < j104 → V E Z 104 [(0, .ref hr), (1, .int (nI x_3)), (2, .int (nI x_27)), (3, .int (nI (decide (k1_27 = 1 ∧ v1_27 = lN (pkS 27 18))).toNat)), (4, .int (nI vs)), (5, .int (nI (vm).toNat)), (6, .int (nI vi))] [] [ob hr 4 [.ref (ra 0), .int (nI fd), .ref (ra 2), .ref (ra 3), .int (nI re), .int (nI lk), .int (nI lp), .int (nI ln), .long lv, .int (nI (rh).toNat), .ref (ra 10), .ref (ra 11), .ref (ra 12), .int (nI rc), .int (nI rf), .int rw], aB E (ra 0) 900 tp, aL E (ra 2) 6 kwd, aL E (ra 10) 18 nms, aN E (ra 11) 18 nso, aN E (ra 12) 18 nnu, ob (ra 3) 0 [.int (nI (cy 0)), .int (nI (cy 1)), .int (nI (cy 2)), .int (nI (cy 3)), .int (nI (cy 4)), .int (nI (cy 5)), .int (nI (cy 6)), .int (nI (cy 7)), .ref (ca 0), .ref (ca 1), .ref (ca 2), .ref (ca 3), .ref (ca 4), .ref (ca 5), .ref (ca 6), .ref (ca 7), .ref (ca 8), .ref (ca 9), .ref (ca 10), .ref (ca 11)], aN E (ca 8) 6 dm, aN E (ca 9) 6 dy, aN E (ca 10) 6 ds, aZ E (ca 11) 6 dk] 0 0 := by
                            intro j104
                            induction j104 with
                            | zero => intro vi vm vs lk lp ln lv hI hM; exact absurd hM (Nat.not_lt_zero _)
                            | succ j104 ih104 =>
                              intro vi vm vs lk lp ln lv hI104 hM104
                              obtain ⟨hv7, hvs, hlT, hlp, hm1, hm0⟩ := id hI104
                              refine v_iload X dX4_readDid_104 5 rfl ?_
                              refine v_ifB_eq X dX4_readDid_106 (tgt := 172) (by decide) (fun h106 => ?_) (fun h106 => ?_)
                              · have hS9 : setF tp re kwd (rc, nms, nso, nnu) (k1_68, p1_68, n1_68, v1_68) = .inr (vs, (lk, lp, ln, lv)) := hm0 h106
                                refine v_aload_n X dX4_readDid_172 rfl 0 rfl ?_
                                refine v_get X kcX4 fl_X4_48 dX4_readDid_173 0 rfl rfl ?_
                                refine v_iload_n X dX4_readDid_176 rfl 1 rfl ?_
                                refine v_iload_n X dX4_readDid_177 rfl 2 rfl ?_
                                refine v_iload_n X dX4_readDid_178 rfl 3 rfl ?_
                                refine v_iload X dX4_readDid_179 4 rfl ?_
                                refine v_wrV1 X (rn_VN X k_X0_addDid ml_X4_237 dX4_readDid_181 (c_X0_addDid l E (ra 3) cy ca dm dy ds dk x_3 x_27 (decide (k1_27 = 1 ∧ v1_27 = lN (pkS 27 18))) vs (by first | assumption | omega)) rfl 0 rfl rfl (by decide) (by decide) (by omega) (by omega) (Nat.le_of_ble_eq_true rfl)) [6, 7, 8, 9, 10] rfl rfl (ws' := [ob hr 4 [.ref (ra 0), .int (nI fd), .ref (ra 2), .ref (ra 3), .int (nI re), .int (nI lk), .int (nI lp), .int (nI ln), .long lv, .int (nI (rh).toNat), .ref (ra 10), .ref (ra 11), .ref (ra 12), .int (nI rc), .int (nI rf), .int rw], aB E (ra 0) 900 tp, aL E (ra 2) 6 kwd, aL E (ra 10) 18 nms, aN E (ra 11) 18 nso, aN E (ra 12) 18 nnu, ob (ra 3) 0 [.int (nI ((upN cy 7 (cy 7 + 1)) 0)), .int (nI ((upN cy 7 (cy 7 + 1)) 1)), .int (nI ((upN cy 7 (cy 7 + 1)) 2)), .int (nI ((upN cy 7 (cy 7 + 1)) 3)), .int (nI ((upN cy 7 (cy 7 + 1)) 4)), .int (nI ((upN cy 7 (cy 7 + 1)) 5)), .int (nI ((upN cy 7 (cy 7 + 1)) 6)), .int (nI ((upN cy 7 (cy 7 + 1)) 7)), .ref (ca 0), .ref (ca 1), .ref (ca 2), .ref (ca 3), .ref (ca 4), .ref (ca 5), .ref (ca 6), .ref (ca 7), .ref (ca 8), .ref (ca 9), .ref (ca 10), .ref (ca 11)], aN E (ca 8) 6 (upN dm (cy 7) x_3), aN E (ca 9) 6 (upN dy (cy 7) x_27), aN E (ca 10) 6 (upN ds (cy 7) vs), aZ E (ca 11) 6 (upB dk (cy 7) (decide (k1_27 = 1 ∧ v1_27 = lN (pkS 27 18))))]) rfl rfl ?_
                                refine v_iconst X dX4_readDid_184 (v := nI 1) (by decide) ?_
                                exact v_zret X Y dX4_readDid_185 (by decide) (Or.inl ⟨x_3, x_27, (decide (k1_27 = 1 ∧ v1_27 = lN (pkS 27 18))), vs, lk, lp, ln, lv, (by unfold didF; rw [hW_3, sb_k, hW_17, sb_k, hW_27, sb_k, kb_2 h51 h60 hA_68, sb_k, hS9, sb_k]), (hlT), (by omega), (hx_3), (by omega), (hvs), rfl, rfl⟩) (by omega) (by omega)
                              · have hlQ : lp ≤ ln := hlT.2.1
                                refine v_iload X dX4_readDid_109 6 rfl ?_
                                refine v_bipush X dX4_readDid_111 (v := nI 6) (by decide) ?_
                                refine v_icmpN_gt X dX4_readDid_113 (tgt := 172) (by decide) (by omega) (by decide) (fun h113 => ?_) (fun h113 => ?_)
                                · have hS9 : setF tp re kwd (rc, nms, nso, nnu) (k1_68, p1_68, n1_68, v1_68) = .inr (vs, (lk, lp, ln, lv)) := (hm1 h106).trans (by rw [show 7 - vi = 0 by omega, dsF])
                                  refine v_aload_n X dX4_readDid_172 rfl 0 rfl ?_
                                  refine v_get X kcX4 fl_X4_48 dX4_readDid_173 0 rfl rfl ?_
                                  refine v_iload_n X dX4_readDid_176 rfl 1 rfl ?_
                                  refine v_iload_n X dX4_readDid_177 rfl 2 rfl ?_
                                  refine v_iload_n X dX4_readDid_178 rfl 3 rfl ?_
                                  refine v_iload X dX4_readDid_179 4 rfl ?_
                                  refine v_wrV1 X (rn_VN X k_X0_addDid ml_X4_237 dX4_readDid_181 (c_X0_addDid l E (ra 3) cy ca dm dy ds dk x_3 x_27 (decide (k1_27 = 1 ∧ v1_27 = lN (pkS 27 18))) vs (by first | assumption | omega)) rfl 0 rfl rfl (by decide) (by decide) (by omega) (by omega) (Nat.le_of_ble_eq_true rfl)) [6, 7, 8, 9, 10] rfl rfl (ws' := [ob hr 4 [.ref (ra 0), .int (nI fd), .ref (ra 2), .ref (ra 3), .int (nI re), .int (nI lk), .int (nI lp), .int (nI ln), .long lv, .int (nI (rh).toNat), .ref (ra 10), .ref (ra 11), .ref (ra 12), .int (nI rc), .int (nI rf), .int rw], aB E (ra 0) 900 tp, aL E (ra 2) 6 kwd, aL E (ra 10) 18 nms, aN E (ra 11) 18 nso, aN E (ra 12) 18 nnu, ob (ra 3) 0 [.int (nI ((upN cy 7 (cy 7 + 1)) 0)), .int (nI ((upN cy 7 (cy 7 + 1)) 1)), .int (nI ((upN cy 7 (cy 7 + 1)) 2)), .int (nI ((upN cy 7 (cy 7 + 1)) 3)), .int (nI ((upN cy 7 (cy 7 + 1)) 4)), .int (nI ((upN cy 7 (cy 7 + 1)) 5)), .int (nI ((upN cy 7 (cy 7 + 1)) 6)), .int (nI ((upN cy 7 (cy 7 + 1)) 7)), .ref (ca 0), .ref (ca 1), .ref (ca 2), .ref (ca 3), .ref (ca 4), .ref (ca 5), .ref (ca 6), .ref (ca 7), .ref (ca 8), .ref (ca 9), .ref (ca 10), .ref (ca 11)], aN E (ca 8) 6 (upN dm (cy 7) x_3), aN E (ca 9) 6 (upN dy (cy 7) x_27), aN E (ca 10) 6 (upN ds (cy 7) vs), aZ E (ca 11) 6 (upB dk (cy 7) (decide (k1_27 = 1 ∧ v1_27 = lN (pkS 27 18))))]) rfl rfl ?_
                                  refine v_iconst X dX4_readDid_184 (v := nI 1) (by decide) ?_
                                  exact v_zret X Y dX4_readDid_185 (by decide) (Or.inl ⟨x_3, x_27, (decide (k1_27 = 1 ∧ v1_27 = lN (pkS 27 18))), vs, lk, lp, ln, lv, (by unfold didF; rw [hW_3, sb_k, hW_17, sb_k, hW_27, sb_k, kb_2 h51 h60 hA_68, sb_k, hS9, sb_k]), (hlT), (by omega), (hx_3), (by omega), (hvs), rfl, rfl⟩) (by omega) (by omega)
                                · refine v_aload_n X dX4_readDid_116 rfl 0 rfl ?_
                                  refine v_iconst X dX4_readDid_117 (v := nI 2) (by decide) ?_
                                  refine v_iload X dX4_readDid_118 4 rfl ?_
                                  refine v_wr X (rn_V X k_X4_passName ml_X4_200 dX4_readDid_120 (c_X4_passNameA l E hr ra fd re lk lp ln lv rh rc rf rw tp kwd nms nso nnu 2 vs (by first | assumption | omega) (hlT) (by first | assumption | omega) (by decide) (by first | assumption | omega) (by first | assumption | omega) (hvs)) rfl 0 rfl rfl (by decide) (by decide) (by omega) (by omega) (Nat.le_of_ble_eq_true rfl)) [0, 1, 2, 3, 4, 5] rfl rfl (fun r w1 hpo => ?_)
                                  rcases hpo with ⟨x_120, k1_120, p1_120, n1_120, v1_120, hW_120, hx_120, h8_120, hu_120, hO_120, hP_120, rfl, rfl⟩ | ⟨f_120, hW_120, rfl, rfl⟩
                                  · refine ⟨rfl, ?_⟩
                                    refine V.cast (st' := [.int (nI x_120)]) (ws' := [ob hr 4 [.ref (ra 0), .int (nI fd), .ref (ra 2), .ref (ra 3), .int (nI re), .int (nI k1_120), .int (nI p1_120), .int (nI n1_120), .long v1_120, .int (nI (rh).toNat), .ref (ra 10), .ref (ra 11), .ref (ra 12), .int (nI rc), .int (nI rf), .int rw], aB E (ra 0) 900 tp, aL E (ra 2) 6 kwd, aL E (ra 10) 18 nms, aN E (ra 11) 18 nso, aN E (ra 12) 18 nnu, ob (ra 3) 0 [.int (nI (cy 0)), .int (nI (cy 1)), .int (nI (cy 2)), .int (nI (cy 3)), .int (nI (cy 4)), .int (nI (cy 5)), .int (nI (cy 6)), .int (nI (cy 7)), .ref (ca 0), .ref (ca 1), .ref (ca 2), .ref (ca 3), .ref (ca 4), .ref (ca 5), .ref (ca 6), .ref (ca 7), .ref (ca 8), .ref (ca 9), .ref (ca 10), .ref (ca 11)], aN E (ca 8) 6 dm, aN E (ca 9) 6 dy, aN E (ca 10) 6 ds, aZ E (ca 11) 6 dk]) rfl rfl rfl ?_
                                    have hQ_120 : p1_120 ≤ n1_120 := hO_120.2.1
                                    refine v_istore X dX4_readDid_123 (by decide) (lv' := [(7, .int (nI x_120)), (0, .ref hr), (1, .int (nI x_3)), (2, .int (nI x_27)), (3, .int (nI (decide (k1_27 = 1 ∧ v1_27 = lN (pkS 27 18))).toNat)), (4, .int (nI vs)), (5, .int (nI (vm).toNat)), (6, .int (nI vi))]) rfl ?_
                                    refine v_iload X dX4_readDid_125 0 rfl ?_
                                    refine v_iconst X dX4_readDid_127 (v := (-1)) (by decide) ?_
                                    refine v_icmp_ne X dX4_readDid_128 (tgt := 133) (by decide) (fun h128 => ?_) (fun h128 => ?_)
                                    · refine v_iload X dX4_readDid_133 5 rfl ?_
                                      refine v_iconst X dX4_readDid_135 (v := nI 1) (by decide) ?_
                                      refine v_iload X dX4_readDid_136 0 rfl ?_
                                      refine v_ishl X dX4_readDid_138 ?_
                                      refine v_eqi (x' := nI (2 ^ x_120)) (nI_shl1 (by omega)) ?_
                                      refine v_ior X dX4_readDid_139 ?_
                                      refine v_eqi (x' := nI (vs ||| (2 ^ x_120))) (fa_or _ _) ?_
                                      refine v_istore X dX4_readDid_140 (by decide) (lv' := [(4, .int (nI (vs ||| (2 ^ x_120)))), (7, .int (nI x_120)), (0, .ref hr), (1, .int (nI x_3)), (2, .int (nI x_27)), (3, .int (nI (decide (k1_27 = 1 ∧ v1_27 = lN (pkS 27 18))).toNat)), (5, .int (nI (vm).toNat)), (6, .int (nI vi))]) rfl ?_
                                      refine v_aload_n X dX4_readDid_142 rfl 2 rfl ?_
                                      refine v_get X kcX4 fl_X4_90 dX4_readDid_143 0 rfl rfl ?_
                                      refine v_iconst X dX4_readDid_146 (v := nI 4) (by decide) ?_
                                      refine v_icmpN_ne X dX4_readDid_147 (tgt := 154) (by decide) (tk_lt (by assumption)) (by decide) (fun h147 => ?_) (fun h147 => ?_)
                                      · refine v_iconst X dX4_readDid_154 (v := nI 0) (by decide) ?_
                                        refine v_istore X dX4_readDid_155 (by decide) (lv' := [(5, .int (nI 0)), (4, .int (nI (vs ||| (2 ^ x_120)))), (7, .int (nI x_120)), (0, .ref hr), (1, .int (nI x_3)), (2, .int (nI x_27)), (3, .int (nI (decide (k1_27 = 1 ∧ v1_27 = lN (pkS 27 18))).toNat)), (6, .int (nI vi))]) rfl ?_
                                        refine v_iload X dX4_readDid_157 0 rfl ?_
                                        refine v_ifN_eq X dX4_readDid_159 (tgt := 166) (by decide) (by decide) (fun h159 => ?_) (fun h159 => ?_)
                                        · refine v_iinc X dX4_readDid_166 7 rfl (v := nI (vi + 1)) (nI_inc vi) (by decide) (lv' := [(6, .int (nI (vi + 1))), (5, .int (nI 0)), (4, .int (nI (vs ||| (2 ^ x_120)))), (7, .int (nI x_120)), (0, .ref hr), (1, .int (nI x_3)), (2, .int (nI x_27)), (3, .int (nI (decide (k1_27 = 1 ∧ v1_27 = lN (pkS 27 18))).toNat))]) rfl ?_
                                          refine v_goto X dX4_readDid_169 (tgt := 104) (by decide) ?_
                                          refine V.lvs [4, 5, 6, 7, 2, 1, 0] rfl ?_
                                          exact ih104 (vi + 1) false (vs ||| (2 ^ x_120)) k1_120 p1_120 n1_120 v1_120 (⟨by omega, or_256 hvs h8_120, hO_120, by omega, fun z => absurd z (by decide), fun _ => (hm1 h106).trans (by rw [show 7 - vi = (7 - (vi + 1)) + 1 by omega, dsF, hW_120, sb_k, if_neg h147])⟩) (by omega)
                                        · exfalso; omega
                                      · refine v_iconst X dX4_readDid_150 (v := nI 1) (by decide) ?_
                                        refine v_goto X dX4_readDid_151 (tgt := 155) (by decide) ?_
                                        refine v_istore X dX4_readDid_155 (by decide) (lv' := [(5, .int (nI 1)), (4, .int (nI (vs ||| (2 ^ x_120)))), (7, .int (nI x_120)), (0, .ref hr), (1, .int (nI x_3)), (2, .int (nI x_27)), (3, .int (nI (decide (k1_27 = 1 ∧ v1_27 = lN (pkS 27 18))).toNat)), (6, .int (nI vi))]) rfl ?_
                                        refine v_iload X dX4_readDid_157 0 rfl ?_
                                        refine v_ifN_eq X dX4_readDid_159 (tgt := 166) (by decide) (by decide) (fun h159 => ?_) (fun h159 => ?_)
                                        · exfalso; omega
                                        · refine v_aload_n X dX4_readDid_162 rfl 3 rfl ?_
                                          refine v_wr X (rn_V X k_X4_advance ml_X4_83 dX4_readDid_163 (c_X4_advanceA l E hr ra fd re k1_120 p1_120 n1_120 v1_120 rh rc rf rw tp (by first | assumption | omega) (hO_120)) rfl 0 rfl rfl (by decide) (by decide) (by omega) (by omega) (Nat.le_of_ble_eq_true rfl)) [0, 1] rfl rfl (fun r w1 hpo => ?_)
                                          rcases hpo with ⟨k1_163, p1_163, n1_163, v1_163, hA_163, hO_163, hP_163, rfl, rfl⟩
                                          · refine ⟨rfl, ?_⟩
                                            refine V.cast (st' := []) (ws' := [ob hr 4 [.ref (ra 0), .int (nI fd), .ref (ra 2), .ref (ra 3), .int (nI re), .int (nI k1_163), .int (nI p1_163), .int (nI n1_163), .long v1_163, .int (nI (rh).toNat), .ref (ra 10), .ref (ra 11), .ref (ra 12), .int (nI rc), .int (nI rf), .int rw], aB E (ra 0) 900 tp, aL E (ra 2) 6 kwd, aL E (ra 10) 18 nms, aN E (ra 11) 18 nso, aN E (ra 12) 18 nnu, ob (ra 3) 0 [.int (nI (cy 0)), .int (nI (cy 1)), .int (nI (cy 2)), .int (nI (cy 3)), .int (nI (cy 4)), .int (nI (cy 5)), .int (nI (cy 6)), .int (nI (cy 7)), .ref (ca 0), .ref (ca 1), .ref (ca 2), .ref (ca 3), .ref (ca 4), .ref (ca 5), .ref (ca 6), .ref (ca 7), .ref (ca 8), .ref (ca 9), .ref (ca 10), .ref (ca 11)], aN E (ca 8) 6 dm, aN E (ca 9) 6 dy, aN E (ca 10) 6 ds, aZ E (ca 11) 6 dk]) rfl rfl rfl ?_
                                            have hQ_163 : p1_163 ≤ n1_163 := hO_163.2.1
                                            refine v_iinc X dX4_readDid_166 7 rfl (v := nI (vi + 1)) (nI_inc vi) (by decide) (lv' := [(6, .int (nI (vi + 1))), (5, .int (nI 1)), (4, .int (nI (vs ||| (2 ^ x_120)))), (7, .int (nI x_120)), (0, .ref hr), (1, .int (nI x_3)), (2, .int (nI x_27)), (3, .int (nI (decide (k1_27 = 1 ∧ v1_27 = lN (pkS 27 18))).toNat))]) rfl ?_
                                            refine v_goto X dX4_readDid_169 (tgt := 104) (by decide) ?_
                                            refine V.lvs [4, 5, 6, 7, 2, 1, 0] rfl ?_
                                            exact ih104 (vi + 1) true (vs ||| (2 ^ x_120)) k1_163 p1_163 n1_163 v1_163 (⟨by omega, or_256 hvs h8_120, hO_163, by omega, fun _ => (hm1 h106).trans (by rw [show 7 - vi = (7 - (vi + 1)) + 1 by omega, dsF, hW_120, sb_k, if_pos h147]; exact congrArg (dsF tp re kwd (rc, nms, nso, nnu) (7 - (vi + 1)) (vs ||| 2 ^ x_120)) hA_163), fun z => absurd z (by decide)⟩) (by omega)
                                    · exact (nm1 h128 (by omega)).elim
                                  · refine ⟨rfl, ?_⟩
                                    refine V.cast (st' := [.int (-1)]) (ws' := [ob hr 4 [.ref (ra 0), .int (nI fd), .ref (ra 2), .ref (ra 3), .int (nI re), .int (nI lk), .int (nI lp), .int (nI ln), .long lv, .int (nI (rh).toNat), .ref (ra 10), .ref (ra 11), .ref (ra 12), .int (nI rc), .int (nI f_120), .int (nI lp)], aB E (ra 0) 900 tp, aL E (ra 2) 6 kwd, aL E (ra 10) 18 nms, aN E (ra 11) 18 nso, aN E (ra 12) 18 nnu, ob (ra 3) 0 [.int (nI (cy 0)), .int (nI (cy 1)), .int (nI (cy 2)), .int (nI (cy 3)), .int (nI (cy 4)), .int (nI (cy 5)), .int (nI (cy 6)), .int (nI (cy 7)), .ref (ca 0), .ref (ca 1), .ref (ca 2), .ref (ca 3), .ref (ca 4), .ref (ca 5), .ref (ca 6), .ref (ca 7), .ref (ca 8), .ref (ca 9), .ref (ca 10), .ref (ca 11)], aN E (ca 8) 6 dm, aN E (ca 9) 6 dy, aN E (ca 10) 6 ds, aZ E (ca 11) 6 dk]) rfl rfl rfl ?_
                                    refine v_istore X dX4_readDid_123 (by decide) (lv' := [(7, .int (-1)), (0, .ref hr), (1, .int (nI x_3)), (2, .int (nI x_27)), (3, .int (nI (decide (k1_27 = 1 ∧ v1_27 = lN (pkS 27 18))).toNat)), (4, .int (nI vs)), (5, .int (nI (vm).toNat)), (6, .int (nI vi))]) rfl ?_
                                    refine v_iload X dX4_readDid_125 0 rfl ?_
                                    refine v_iconst X dX4_readDid_127 (v := (-1)) (by decide) ?_
                                    refine v_icmp_ne X dX4_readDid_128 (tgt := 133) (by decide) (fun h128 => ?_) (fun h128 => ?_)
                                    · exact absurd rfl h128
                                    · refine v_iconst X dX4_readDid_131 (v := nI 0) (by decide) ?_
                                      exact v_zret X Y dX4_readDid_132 (by decide) (Or.inr ⟨f_120, lp, lk, lp, ln, lv, (by unfold didF; rw [hW_3, sb_k, hW_17, sb_k, hW_27, sb_k, kb_2 h51 h60 hA_68, sb_k, (hm1 h106).trans (show dsF tp re kwd (rc, nms, nso, nnu) (7 - vi) vs (lk, lp, ln, lv) = .inl (f_120, lp) by rw [show 7 - vi = (7 - (vi + 1)) + 1 by omega, dsF, hW_120, sb_e]), sb_e]), rfl, rfl⟩) (by omega) (by omega)
                          refine V.lvs [6, 5, 4, 3, 2, 1, 0] rfl ?_
                          exact L104 _ 0 true 0 k1_68 p1_68 n1_68 v1_68 (⟨by omega, by decide, hO_68, hQ9, fun _ => if_neg (fun z => by rcases z with z | z; exact h83 z; exact h91 z), fun z => absurd z (by decide)⟩) (Nat.lt_succ_self _)
                    · exfalso; omega
                  · exact absurd hB_68 (by decide)
            · exact (nm1 h37 (by omega)).elim
          · refine ⟨rfl, ?_⟩
            refine V.cast (st' := [.int (-1)]) (ws' := [ob hr 4 [.ref (ra 0), .int (nI fd), .ref (ra 2), .ref (ra 3), .int (nI re), .int (nI k1_17), .int (nI p1_17), .int (nI n1_17), .long v1_17, .int (nI (rh).toNat), .ref (ra 10), .ref (ra 11), .ref (ra 12), .int (nI rc), .int (nI f_27), .int (nI p1_17)], aB E (ra 0) 900 tp, aL E (ra 2) 6 kwd, aL E (ra 10) 18 nms, aN E (ra 11) 18 nso, aN E (ra 12) 18 nnu, ob (ra 3) 0 [.int (nI (cy 0)), .int (nI (cy 1)), .int (nI (cy 2)), .int (nI (cy 3)), .int (nI (cy 4)), .int (nI (cy 5)), .int (nI (cy 6)), .int (nI (cy 7)), .ref (ca 0), .ref (ca 1), .ref (ca 2), .ref (ca 3), .ref (ca 4), .ref (ca 5), .ref (ca 6), .ref (ca 7), .ref (ca 8), .ref (ca 9), .ref (ca 10), .ref (ca 11)], aN E (ca 8) 6 dm, aN E (ca 9) 6 dy, aN E (ca 10) 6 ds, aZ E (ca 11) 6 dk]) rfl rfl rfl ?_
            refine v_goto X dX4_readDid_30 (tgt := 34) (by decide) ?_
            refine v_istore_n X dX4_readDid_34 rfl (by decide) (lv' := [(2, .int (-1)), (1, .int (nI x_3)), (0, .ref hr)]) rfl ?_
            refine v_iload_n X dX4_readDid_35 rfl 0 rfl ?_
            refine v_iconst X dX4_readDid_36 (v := (-1)) (by decide) ?_
            refine v_icmp_ne X dX4_readDid_37 (tgt := 42) (by decide) (fun h37 => ?_) (fun h37 => ?_)
            · exact absurd rfl h37
            · refine v_iconst X dX4_readDid_40 (v := nI 0) (by decide) ?_
              exact v_zret X Y dX4_readDid_41 (by decide) (Or.inr ⟨f_27, p1_17, k1_17, p1_17, n1_17, v1_17, (by unfold didF; rw [hW_3, sb_k, hW_17, sb_k, hW_27, sb_e]), rfl, rfl⟩) (by omega) (by omega)
      · refine ⟨rfl, ?_⟩
        refine V.cast (st' := [.int (nI 0)]) (ws' := [ob hr 4 [.ref (ra 0), .int (nI fd), .ref (ra 2), .ref (ra 3), .int (nI re), .int (nI k1_3), .int (nI p1_3), .int (nI n1_3), .long v1_3, .int (nI (rh).toNat), .ref (ra 10), .ref (ra 11), .ref (ra 12), .int (nI rc), .int (nI 1), .int (nI p1_3)], aB E (ra 0) 900 tp, aL E (ra 2) 6 kwd, aL E (ra 10) 18 nms, aN E (ra 11) 18 nso, aN E (ra 12) 18 nnu, ob (ra 3) 0 [.int (nI (cy 0)), .int (nI (cy 1)), .int (nI (cy 2)), .int (nI (cy 3)), .int (nI (cy 4)), .int (nI (cy 5)), .int (nI (cy 6)), .int (nI (cy 7)), .ref (ca 0), .ref (ca 1), .ref (ca 2), .ref (ca 3), .ref (ca 4), .ref (ca 5), .ref (ca 6), .ref (ca 7), .ref (ca 8), .ref (ca 9), .ref (ca 10), .ref (ca 11)], aN E (ca 8) 6 dm, aN E (ca 9) 6 dy, aN E (ca 10) 6 ds, aZ E (ca 11) 6 dk]) rfl rfl rfl ?_
        refine v_ifN_eq X dX4_readDid_20 (tgt := 33) (by decide) (by decide) (fun h20 => ?_) (fun h20 => ?_)
        · refine v_iconst X dX4_readDid_33 (v := (-1)) (by decide) ?_
          refine v_istore_n X dX4_readDid_34 rfl (by decide) (lv' := [(2, .int (-1)), (1, .int (nI x_3)), (0, .ref hr)]) rfl ?_
          refine v_iload_n X dX4_readDid_35 rfl 0 rfl ?_
          refine v_iconst X dX4_readDid_36 (v := (-1)) (by decide) ?_
          refine v_icmp_ne X dX4_readDid_37 (tgt := 42) (by decide) (fun h37 => ?_) (fun h37 => ?_)
          · exact absurd rfl h37
          · refine v_iconst X dX4_readDid_40 (v := nI 0) (by decide) ?_
            exact v_zret X Y dX4_readDid_41 (by decide) (Or.inr ⟨1, p1_3, k1_3, p1_3, n1_3, v1_3, (by unfold didF; rw [hW_3, sb_k, hW_17, sb_e]), rfl, rfl⟩) (by omega) (by omega)
        · exfalso; omega
    · exact (nm1 h9 (by omega)).elim
  · refine ⟨rfl, ?_⟩
    refine V.cast (st' := [.int (-1)]) (ws' := [ob hr 4 [.ref (ra 0), .int (nI fd), .ref (ra 2), .ref (ra 3), .int (nI re), .int (nI rk), .int (nI rp), .int (nI rn), .long rv, .int (nI (rh).toNat), .ref (ra 10), .ref (ra 11), .ref (ra 12), .int (nI rc), .int (nI f_3), .int (nI rp)], aB E (ra 0) 900 tp, aL E (ra 2) 6 kwd, aL E (ra 10) 18 nms, aN E (ra 11) 18 nso, aN E (ra 12) 18 nnu, ob (ra 3) 0 [.int (nI (cy 0)), .int (nI (cy 1)), .int (nI (cy 2)), .int (nI (cy 3)), .int (nI (cy 4)), .int (nI (cy 5)), .int (nI (cy 6)), .int (nI (cy 7)), .ref (ca 0), .ref (ca 1), .ref (ca 2), .ref (ca 3), .ref (ca 4), .ref (ca 5), .ref (ca 6), .ref (ca 7), .ref (ca 8), .ref (ca 9), .ref (ca 10), .ref (ca 11)], aN E (ca 8) 6 dm, aN E (ca 9) 6 dy, aN E (ca 10) 6 ds, aZ E (ca 11) 6 dk]) rfl rfl rfl ?_
    refine v_istore_n X dX4_readDid_6 rfl (by decide) (lv' := [(1, .int (-1)), (0, .ref hr)]) rfl ?_
    refine v_iload_n X dX4_readDid_7 rfl 0 rfl ?_
    refine v_iconst X dX4_readDid_8 (v := (-1)) (by decide) ?_
    refine v_icmp_ne X dX4_readDid_9 (tgt := 14) (by decide) (fun h9 => ?_) (fun h9 => ?_)
    · exact absurd rfl h9
    · refine v_iconst X dX4_readDid_12 (v := nI 0) (by decide) ?_
      exact v_zret X Y dX4_readDid_13 (by decide) (Or.inr ⟨f_3, rp, rk, rp, rn, rv, (by unfold didF; rw [hW_3, sb_e]), rfl, rfl⟩) (by omega) (by omega)
