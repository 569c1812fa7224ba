theorem fo_c0 {rk : Nat} {rv : Int64} (m' : Nat) (hm : m' < 0)  : foP rk rv m' = false := by
  exact absurd hm (Nat.not_lt_zero _)
theorem fo_c1 {rk : Nat} {rv : Int64} (m' : Nat) (hm : m' < 1) (h0 : decide (rk = 1 ∧ rv = lN (pkS 27 11)) = false) : foP rk rv m' = false := by
  obtain rfl : m' = 0 := by omega
  · exact h0
theorem fo_c2 {rk : Nat} {rv : Int64} (m' : Nat) (hm : m' < 2) (h0 : decide (rk = 1 ∧ rv = lN (pkS 27 11)) = false) (h1 : decide (rk = 1 ∧ rv = lN (pkS 27 12)) = false) : foP rk rv m' = false := by
  obtain rfl | rfl : m' = 0 ∨ m' = 1 := by omega
  · exact h0
  · exact h1
theorem fo_c3 {rk : Nat} {rv : Int64} (m' : Nat) (hm : m' < 3) (h0 : decide (rk = 1 ∧ rv = lN (pkS 27 11)) = false) (h1 : decide (rk = 1 ∧ rv = lN (pkS 27 12)) = false) (h2 : decide (rk = 1 ∧ rv = lN (pkS 27 13)) = false) : foP rk rv m' = false := by
  obtain rfl | rfl | rfl : m' = 0 ∨ m' = 1 ∨ m' = 2 := by omega
  · exact h0
  · exact h1
  · exact h2
theorem fo_c4 {rk : Nat} {rv : Int64} (m' : Nat) (hm : m' < 4) (h0 : decide (rk = 1 ∧ rv = lN (pkS 27 11)) = false) (h1 : decide (rk = 1 ∧ rv = lN (pkS 27 12)) = false) (h2 : decide (rk = 1 ∧ rv = lN (pkS 27 13)) = false) (h3 : decide (rk = 1 ∧ rv = lN (pkS 27 14)) = false) : foP rk rv m' = false := by
  obtain rfl | rfl | rfl | rfl : m' = 0 ∨ m' = 1 ∨ m' = 2 ∨ m' = 3 := by omega
  · exact h0
  · exact h1
  · exact h2
  · exact h3
theorem fo_c5 {rk : Nat} {rv : Int64} (m' : Nat) (hm : m' < 5) (h0 : decide (rk = 1 ∧ rv = lN (pkS 27 11)) = false) (h1 : decide (rk = 1 ∧ rv = lN (pkS 27 12)) = false) (h2 : decide (rk = 1 ∧ rv = lN (pkS 27 13)) = false) (h3 : decide (rk = 1 ∧ rv = lN (pkS 27 14)) = false) (h4 : decide (rk = 1 ∧ rv = lN (pkS 27 15)) = false) : foP rk rv m' = false := by
  obtain rfl | rfl | rfl | rfl | rfl : m' = 0 ∨ m' = 1 ∨ m' = 2 ∨ m' = 3 ∨ m' = 4 := by omega
  · exact h0
  · exact h1
  · exact h2
  · exact h3
  · exact h4
theorem fo_c6 {rk : Nat} {rv : Int64} (m' : Nat) (hm : m' < 6) (h0 : decide (rk = 1 ∧ rv = lN (pkS 27 11)) = false) (h1 : decide (rk = 1 ∧ rv = lN (pkS 27 12)) = false) (h2 : decide (rk = 1 ∧ rv = lN (pkS 27 13)) = false) (h3 : decide (rk = 1 ∧ rv = lN (pkS 27 14)) = false) (h4 : decide (rk = 1 ∧ rv = lN (pkS 27 15)) = false) (h5 : decide (rk = 1 ∧ rv = lN (pkS 27 16)) = false) : foP rk rv m' = false := by
  obtain rfl | rfl | rfl | rfl | rfl | rfl : m' = 0 ∨ m' = 1 ∨ m' = 2 ∨ m' = 3 ∨ m' = 4 ∨ m' = 5 := by omega
  · exact h0
  · exact h1
  · exact h2
  · exact h3
  · exact h4
  · exact h5

set_option maxRecDepth 100000 in
set_option maxHeartbeats 4000000 in
theorem c_X4_readHead (l : Launch) (E : Et) (hr : Nat) (ra : Nat → Nat) (fd : Nat) (re : Nat) (rk : Nat) (rp : Nat) (rn : Nat) (rv : Int64) (rh : Bool) (rc : Nat) (rf : Nat) (rw : Int32) (tp : Nat → Int32) (cy : Nat → Nat) (ca : Nat → Nat) (hre : re ≤ 900) (hT : tkO re (rk, rp, rn, rv)) : Ct l E yX4_readHead cX4_readHead 1 (some .boolean) 7 0 0 [.ref hr] [ob hr 4 [.ref (ra 0), .int (nI fd), .ref (ra 2), .ref (ra 3), .int (nI re), .int (nI rk), .int (nI rp), .int (nI rn), .long rv, .int (nI (rh).toNat), .ref (ra 10), .ref (ra 11), .ref (ra 12), .int (nI rc), .int (nI rf), .int rw], aB E (ra 0) 900 tp, ob (ra 3) 0 [.int (nI (cy 0)), .int (nI (cy 1)), .int (nI (cy 2)), .int (nI (cy 3)), .int (nI (cy 4)), .int (nI (cy 5)), .int (nI (cy 6)), .int (nI (cy 7)), .ref (ca 0), .ref (ca 1), .ref (ca 2), .ref (ca 3), .ref (ca 4), .ref (ca 5), .ref (ca 6), .ref (ca 7), .ref (ca 8), .ref (ca 9), .ref (ca 10), .ref (ca 11)]] ((fun r w => (∃ (xb : Nat) (xs : Nat) (xr : Nat) (k1 : Nat) (p1 : Nat) (n1 : Nat) (v1 : Int64), (headF tp re (rk, rp, rn, rv) = .inr (xb, xs, xr, (k1, p1, n1, v1))) ∧ (tkO re (k1, p1, n1, v1)) ∧ (rn ≤ p1) ∧ (xb ≤ 9) ∧ (xs ≤ 100) ∧ (xr ≤ 100) ∧ w = [ob hr 4 [.ref (ra 0), .int (nI fd), .ref (ra 2), .ref (ra 3), .int (nI re), .int (nI k1), .int (nI p1), .int (nI n1), .long v1, .int (nI (true).toNat), .ref (ra 10), .ref (ra 11), .ref (ra 12), .int (nI rc), .int (nI rf), .int rw], aB E (ra 0) 900 tp, ob (ra 3) 0 [.int (nI xb), .int (nI xs), .int (nI xr), .int (nI (cy 3)), .int (nI (cy 4)), .int (nI (cy 5)), .int (nI (cy 6)), .int (nI (cy 7)), .ref (ca 0), .ref (ca 1), .ref (ca 2), .ref (ca 3), .ref (ca 4), .ref (ca 5), .ref (ca 6), .ref (ca 7), .ref (ca 8), .ref (ca 9), .ref (ca 10), .ref (ca 11)]] ∧ r = some (.int (nI 1))) ∨ (∃ (f : Nat) (p : Nat) (k1 : Nat) (p1 : Nat) (n1 : Nat) (v1 : Int64) (jb : Int32) (js : Int32) (jr : Int32), (headF tp re (rk, rp, rn, rv) = .inl (f, p)) ∧ w = [ob hr 4 [.ref (ra 0), .int (nI fd), .ref (ra 2), .ref (ra 3), .int (nI re), .int (nI k1), .int (nI p1), .int (nI n1), .long v1, .int (nI (true).toNat), .ref (ra 10), .ref (ra 11), .ref (ra 12), .int (nI rc), .int (nI f), .int (nI p)], aB E (ra 0) 900 tp, ob (ra 3) 0 [.int jb, .int js, .int jr, .int (nI (cy 3)), .int (nI (cy 4)), .int (nI (cy 5)), .int (nI (cy 6)), .int (nI (cy 7)), .ref (ca 0), .ref (ca 1), .ref (ca 2), .ref (ca 3), .ref (ca 4), .ref (ca 5), .ref (ca 6), .ref (ca 7), .ref (ca 8), .ref (ca 9), .ref (ca 10), .ref (ca 11)]] ∧ r = some (.int (nI 0))))) := by
  refine Ct.intro (by decide +kernel) (Nat.le_of_ble_eq_true rfl) (lv := [(0, .ref hr)]) rfl ?_
  intro Z X Y
  refine v_aload_n X dX4_readHead_0 rfl 0 rfl ?_
  refine v_iconst X dX4_readHead_1 (v := nI 1) (by decide) ?_
  refine v_put X kcX4 fl_X4_73 dX4_readHead_2 0 rfl (ws' := [ob hr 4 [.ref (ra 0), .int (nI fd), .ref (ra 2), .ref (ra 3), .int (nI re), .int (nI rk), .int (nI rp), .int (nI rn), .long rv, .int (nI 1), .ref (ra 10), .ref (ra 11), .ref (ra 12), .int (nI rc), .int (nI rf), .int rw], aB E (ra 0) 900 tp, ob (ra 3) 0 [.int (nI (cy 0)), .int (nI (cy 1)), .int (nI (cy 2)), .int (nI (cy 3)), .int (nI (cy 4)), .int (nI (cy 5)), .int (nI (cy 6)), .int (nI (cy 7)), .ref (ca 0), .ref (ca 1), .ref (ca 2), .ref (ca 3), .ref (ca 4), .ref (ca 5), .ref (ca 6), .ref (ca 7), .ref (ca 8), .ref (ca 9), .ref (ca 10), .ref (ca 11)]]) rfl rfl ?_
  refine v_aload_n X dX4_readHead_5 rfl 0 rfl ?_
  refine v_get X kcX4 fl_X4_48 dX4_readHead_6 0 rfl rfl ?_
  refine v_aload_n X dX4_readHead_9 rfl 0 rfl ?_
  refine v_ldcS X dX4_readHead_10 (i := 6) (tx := "blur") (by decide) ?_
  refine v_wr X (rn_V X k_X4_passesWord ml_X4_178 dX4_readHead_12 (c_X4_passesWordA l E hr ra fd re rk rp rn rv true rc rf rw tp 6 (by decide) (by first | assumption | omega) (by first | assumption | omega)) rfl 0 rfl rfl (by decide) (by decide) (by omega) (by omega) (Nat.le_of_ble_eq_true rfl)) [0, 1] rfl rfl (fun r w1 hpo => ?_)
  rcases hpo with ⟨k1_12, p1_12, n1_12, v1_12, hW_12, hO_12, hP_12, rfl, rfl⟩ | ⟨hW_12, rfl, rfl⟩
  · refine ⟨rfl, ?_⟩
    refine V.cast (st' := [.int (nI 1), .ref (ra 3)]) (ws' := [ob hr 4 [.ref (ra 0), .int (nI fd), .ref (ra 2), .ref (ra 3), .int (nI re), .int (nI k1_12), .int (nI p1_12), .int (nI n1_12), .long v1_12, .int (nI 1), .ref (ra 10), .ref (ra 11), .ref (ra 12), .int (nI rc), .int (nI rf), .int rw], aB E (ra 0) 900 tp, ob (ra 3) 0 [.int (nI (cy 0)), .int (nI (cy 1)), .int (nI (cy 2)), .int (nI (cy 3)), .int (nI (cy 4)), .int (nI (cy 5)), .int (nI (cy 6)), .int (nI (cy 7)), .ref (ca 0), .ref (ca 1), .ref (ca 2), .ref (ca 3), .ref (ca 4), .ref (ca 5), .ref (ca 6), .ref (ca 7), .ref (ca 8), .ref (ca 9), .ref (ca 10), .ref (ca 11)]]) rfl rfl rfl ?_
    have hQ_12 : p1_12 ≤ n1_12 := hO_12.2.1
    refine v_ifN_eq X dX4_readHead_15 (tgt := 28) (by decide) (by decide) (fun h15 => ?_) (fun h15 => ?_)
    · exfalso; omega
    · refine v_aload_n X dX4_readHead_18 rfl 0 rfl ?_
      refine v_iconst X dX4_readHead_19 (v := nI 0) (by decide) ?_
      refine v_bipush X dX4_readHead_20 (v := nI 9) (by decide) ?_
      refine v_wr X (rn_V X k_X4_passWhole ml_X4_181 dX4_readHead_22 (c_X4_passWholeA l E hr ra fd re k1_12 p1_12 n1_12 v1_12 true rc rf rw tp 0 9 (by first | assumption | omega) (by first | assumption | omega) (by decide) (by decide)) rfl 0 rfl rfl (by decide) (by decide) (by omega) (by omega) (Nat.le_of_ble_eq_true rfl)) [0, 1] rfl rfl (fun r w1 hpo => ?_)
      rcases hpo with ⟨x_22, k1_22, p1_22, n1_22, v1_22, hW_22, hx_22, hl_22, hO_22, hP_22, rfl, rfl⟩ | ⟨f_22, hW_22, rfl, rfl⟩
      · refine ⟨rfl, ?_⟩
        refine V.cast (st' := [.int (nI x_22), .ref (ra 3)]) (ws' := [ob hr 4 [.ref (ra 0), .int (nI fd), .ref (ra 2), .ref (ra 3), .int (nI re), .int (nI k1_22), .int (nI p1_22), .int (nI n1_22), .long v1_22, .int (nI 1), .ref (ra 10), .ref (ra 11), .ref (ra 12), .int (nI rc), .int (nI rf), .int rw], aB E (ra 0) 900 tp, ob (ra 3) 0 [.int (nI (cy 0)), .int (nI (cy 1)), .int (nI (cy 2)), .int (nI (cy 3)), .int (nI (cy 4)), .int (nI (cy 5)), .int (nI (cy 6)), .int (nI (cy 7)), .ref (ca 0), .ref (ca 1), .ref (ca 2), .ref (ca 3), .ref (ca 4), .ref (ca 5), .ref (ca 6), .ref (ca 7), .ref (ca 8), .ref (ca 9), .ref (ca 10), .ref (ca 11)]]) rfl rfl rfl ?_
        have hQ_22 : p1_22 ≤ n1_22 := hO_22.2.1
        refine v_goto X dX4_readHead_25 (tgt := 29) (by decide) ?_
        refine v_putN X kcX0 fl_X4_184 dX4_readHead_29 2 rfl (ws' := [ob hr 4 [.ref (ra 0), .int (nI fd), .ref (ra 2), .ref (ra 3), .int (nI re), .int (nI k1_22), .int (nI p1_22), .int (nI n1_22), .long v1_22, .int (nI 1), .ref (ra 10), .ref (ra 11), .ref (ra 12), .int (nI rc), .int (nI rf), .int rw], aB E (ra 0) 900 tp, ob (ra 3) 0 [.int (nI x_22), .int (nI (cy 1)), .int (nI (cy 2)), .int (nI (cy 3)), .int (nI (cy 4)), .int (nI (cy 5)), .int (nI (cy 6)), .int (nI (cy 7)), .ref (ca 0), .ref (ca 1), .ref (ca 2), .ref (ca 3), .ref (ca 4), .ref (ca 5), .ref (ca 6), .ref (ca 7), .ref (ca 8), .ref (ca 9), .ref (ca 10), .ref (ca 11)]]) rfl rfl ?_
        refine v_aload_n X dX4_readHead_32 rfl 0 rfl ?_
        refine v_get X kcX4 fl_X4_48 dX4_readHead_33 0 rfl rfl ?_
        refine v_getN X kcX0 fl_X4_184 dX4_readHead_36 2 rfl rfl ?_
        refine v_iconst X dX4_readHead_39 (v := (-1)) (by decide) ?_
        refine v_icmp_ne X dX4_readHead_40 (tgt := 45) (by decide) (fun h40 => ?_) (fun h40 => ?_)
        · refine v_aload_n X dX4_readHead_45 rfl 0 rfl ?_
          refine v_get X kcX4 fl_X4_48 dX4_readHead_46 0 rfl rfl ?_
          refine v_aload_n X dX4_readHead_49 rfl 0 rfl ?_
          refine v_ldcS X dX4_readHead_50 (i := 7) (tx := "slips") (by decide) ?_
          refine v_wr X (rn_V X k_X4_passesWord ml_X4_178 dX4_readHead_52 (c_X4_passesWordA l E hr ra fd re k1_22 p1_22 n1_22 v1_22 true rc rf rw tp 7 (by decide) (by first | assumption | omega) (by first | assumption | omega)) rfl 0 rfl rfl (by decide) (by decide) (by omega) (by omega) (Nat.le_of_ble_eq_true rfl)) [0, 1] rfl rfl (fun r w1 hpo => ?_)
          rcases hpo with ⟨k1_52, p1_52, n1_52, v1_52, hW_52, hO_52, hP_52, rfl, rfl⟩ | ⟨hW_52, rfl, rfl⟩
          · refine ⟨rfl, ?_⟩
            refine V.cast (st' := [.int (nI 1), .ref (ra 3)]) (ws' := [ob hr 4 [.ref (ra 0), .int (nI fd), .ref (ra 2), .ref (ra 3), .int (nI re), .int (nI k1_52), .int (nI p1_52), .int (nI n1_52), .long v1_52, .int (nI 1), .ref (ra 10), .ref (ra 11), .ref (ra 12), .int (nI rc), .int (nI rf), .int rw], aB E (ra 0) 900 tp, ob (ra 3) 0 [.int (nI x_22), .int (nI (cy 1)), .int (nI (cy 2)), .int (nI (cy 3)), .int (nI (cy 4)), .int (nI (cy 5)), .int (nI (cy 6)), .int (nI (cy 7)), .ref (ca 0), .ref (ca 1), .ref (ca 2), .ref (ca 3), .ref (ca 4), .ref (ca 5), .ref (ca 6), .ref (ca 7), .ref (ca 8), .ref (ca 9), .ref (ca 10), .ref (ca 11)]]) rfl rfl rfl ?_
            have hQ_52 : p1_52 ≤ n1_52 := hO_52.2.1
            refine v_ifN_eq X dX4_readHead_55 (tgt := 68) (by decide) (by decide) (fun h55 => ?_) (fun h55 => ?_)
            · exfalso; omega
            · refine v_aload_n X dX4_readHead_58 rfl 0 rfl ?_
              refine v_iconst X dX4_readHead_59 (v := nI 0) (by decide) ?_
              refine v_bipush X dX4_readHead_60 (v := nI 100) (by decide) ?_
              refine v_wr X (rn_V X k_X4_passWhole ml_X4_181 dX4_readHead_62 (c_X4_passWholeA l E hr ra fd re k1_52 p1_52 n1_52 v1_52 true rc rf rw tp 0 100 (by first | assumption | omega) (by first | assumption | omega) (by decide) (by decide)) rfl 0 rfl rfl (by decide) (by decide) (by omega) (by omega) (Nat.le_of_ble_eq_true rfl)) [0, 1] rfl rfl (fun r w1 hpo => ?_)
              rcases hpo with ⟨x_62, k1_62, p1_62, n1_62, v1_62, hW_62, hx_62, hl_62, hO_62, hP_62, rfl, rfl⟩ | ⟨f_62, hW_62, rfl, rfl⟩
              · refine ⟨rfl, ?_⟩
                refine V.cast (st' := [.int (nI x_62), .ref (ra 3)]) (ws' := [ob hr 4 [.ref (ra 0), .int (nI fd), .ref (ra 2), .ref (ra 3), .int (nI re), .int (nI k1_62), .int (nI p1_62), .int (nI n1_62), .long v1_62, .int (nI 1), .ref (ra 10), .ref (ra 11), .ref (ra 12), .int (nI rc), .int (nI rf), .int rw], aB E (ra 0) 900 tp, ob (ra 3) 0 [.int (nI x_22), .int (nI (cy 1)), .int (nI (cy 2)), .int (nI (cy 3)), .int (nI (cy 4)), .int (nI (cy 5)), .int (nI (cy 6)), .int (nI (cy 7)), .ref (ca 0), .ref (ca 1), .ref (ca 2), .ref (ca 3), .ref (ca 4), .ref (ca 5), .ref (ca 6), .ref (ca 7), .ref (ca 8), .ref (ca 9), .ref (ca 10), .ref (ca 11)]]) rfl rfl rfl ?_
                have hQ_62 : p1_62 ≤ n1_62 := hO_62.2.1
                refine v_goto X dX4_readHead_65 (tgt := 69) (by decide) ?_
                refine v_putN X kcX0 fl_X4_188 dX4_readHead_69 2 rfl (ws' := [ob hr 4 [.ref (ra 0), .int (nI fd), .ref (ra 2), .ref (ra 3), .int (nI re), .int (nI k1_62), .int (nI p1_62), .int (nI n1_62), .long v1_62, .int (nI 1), .ref (ra 10), .ref (ra 11), .ref (ra 12), .int (nI rc), .int (nI rf), .int rw], aB E (ra 0) 900 tp, ob (ra 3) 0 [.int (nI x_22), .int (nI x_62), .int (nI (cy 2)), .int (nI (cy 3)), .int (nI (cy 4)), .int (nI (cy 5)), .int (nI (cy 6)), .int (nI (cy 7)), .ref (ca 0), .ref (ca 1), .ref (ca 2), .ref (ca 3), .ref (ca 4), .ref (ca 5), .ref (ca 6), .ref (ca 7), .ref (ca 8), .ref (ca 9), .ref (ca 10), .ref (ca 11)]]) rfl rfl ?_
                refine v_aload_n X dX4_readHead_72 rfl 0 rfl ?_
                refine v_get X kcX4 fl_X4_48 dX4_readHead_73 0 rfl rfl ?_
                refine v_getN X kcX0 fl_X4_188 dX4_readHead_76 2 rfl rfl ?_
                refine v_iconst X dX4_readHead_79 (v := (-1)) (by decide) ?_
                refine v_icmp_ne X dX4_readHead_80 (tgt := 85) (by decide) (fun h80 => ?_) (fun h80 => ?_)
                · refine v_aload_n X dX4_readHead_85 rfl 0 rfl ?_
                  refine v_get X kcX4 fl_X4_48 dX4_readHead_86 0 rfl rfl ?_
                  refine v_aload_n X dX4_readHead_89 rfl 0 rfl ?_
                  refine v_ldcS X dX4_readHead_90 (i := 8) (tx := "rain") (by decide) ?_
                  refine v_wr X (rn_V X k_X4_passesWord ml_X4_178 dX4_readHead_92 (c_X4_passesWordA l E hr ra fd re k1_62 p1_62 n1_62 v1_62 true rc rf rw tp 8 (by decide) (by first | assumption | omega) (by first | assumption | omega)) rfl 0 rfl rfl (by decide) (by decide) (by omega) (by omega) (Nat.le_of_ble_eq_true rfl)) [0, 1] rfl rfl (fun r w1 hpo => ?_)
                  rcases hpo with ⟨k1_92, p1_92, n1_92, v1_92, hW_92, hO_92, hP_92, rfl, rfl⟩ | ⟨hW_92, rfl, rfl⟩
                  · refine ⟨rfl, ?_⟩
                    refine V.cast (st' := [.int (nI 1), .ref (ra 3)]) (ws' := [ob hr 4 [.ref (ra 0), .int (nI fd), .ref (ra 2), .ref (ra 3), .int (nI re), .int (nI k1_92), .int (nI p1_92), .int (nI n1_92), .long v1_92, .int (nI 1), .ref (ra 10), .ref (ra 11), .ref (ra 12), .int (nI rc), .int (nI rf), .int rw], aB E (ra 0) 900 tp, ob (ra 3) 0 [.int (nI x_22), .int (nI x_62), .int (nI (cy 2)), .int (nI (cy 3)), .int (nI (cy 4)), .int (nI (cy 5)), .int (nI (cy 6)), .int (nI (cy 7)), .ref (ca 0), .ref (ca 1), .ref (ca 2), .ref (ca 3), .ref (ca 4), .ref (ca 5), .ref (ca 6), .ref (ca 7), .ref (ca 8), .ref (ca 9), .ref (ca 10), .ref (ca 11)]]) rfl rfl rfl ?_
                    have hQ_92 : p1_92 ≤ n1_92 := hO_92.2.1
                    refine v_ifN_eq X dX4_readHead_95 (tgt := 108) (by decide) (by decide) (fun h95 => ?_) (fun h95 => ?_)
                    · exfalso; omega
                    · refine v_aload_n X dX4_readHead_98 rfl 0 rfl ?_
                      refine v_iconst X dX4_readHead_99 (v := nI 0) (by decide) ?_
                      refine v_bipush X dX4_readHead_100 (v := nI 100) (by decide) ?_
                      refine v_wr X (rn_V X k_X4_passWhole ml_X4_181 dX4_readHead_102 (c_X4_passWholeA l E hr ra fd re k1_92 p1_92 n1_92 v1_92 true rc rf rw tp 0 100 (by first | assumption | omega) (by first | assumption | omega) (by decide) (by decide)) rfl 0 rfl rfl (by decide) (by decide) (by omega) (by omega) (Nat.le_of_ble_eq_true rfl)) [0, 1] rfl rfl (fun r w1 hpo => ?_)
                      rcases hpo with ⟨x_102, k1_102, p1_102, n1_102, v1_102, hW_102, hx_102, hl_102, hO_102, hP_102, rfl, rfl⟩ | ⟨f_102, hW_102, rfl, rfl⟩
                      · refine ⟨rfl, ?_⟩
                        refine V.cast (st' := [.int (nI x_102), .ref (ra 3)]) (ws' := [ob hr 4 [.ref (ra 0), .int (nI fd), .ref (ra 2), .ref (ra 3), .int (nI re), .int (nI k1_102), .int (nI p1_102), .int (nI n1_102), .long v1_102, .int (nI 1), .ref (ra 10), .ref (ra 11), .ref (ra 12), .int (nI rc), .int (nI rf), .int rw], aB E (ra 0) 900 tp, ob (ra 3) 0 [.int (nI x_22), .int (nI x_62), .int (nI (cy 2)), .int (nI (cy 3)), .int (nI (cy 4)), .int (nI (cy 5)), .int (nI (cy 6)), .int (nI (cy 7)), .ref (ca 0), .ref (ca 1), .ref (ca 2), .ref (ca 3), .ref (ca 4), .ref (ca 5), .ref (ca 6), .ref (ca 7), .ref (ca 8), .ref (ca 9), .ref (ca 10), .ref (ca 11)]]) rfl rfl rfl ?_
                        have hQ_102 : p1_102 ≤ n1_102 := hO_102.2.1
                        refine v_goto X dX4_readHead_105 (tgt := 109) (by decide) ?_
                        refine v_putN X kcX0 fl_X4_192 dX4_readHead_109 2 rfl (ws' := [ob hr 4 [.ref (ra 0), .int (nI fd), .ref (ra 2), .ref (ra 3), .int (nI re), .int (nI k1_102), .int (nI p1_102), .int (nI n1_102), .long v1_102, .int (nI 1), .ref (ra 10), .ref (ra 11), .ref (ra 12), .int (nI rc), .int (nI rf), .int rw], aB E (ra 0) 900 tp, ob (ra 3) 0 [.int (nI x_22), .int (nI x_62), .int (nI x_102), .int (nI (cy 3)), .int (nI (cy 4)), .int (nI (cy 5)), .int (nI (cy 6)), .int (nI (cy 7)), .ref (ca 0), .ref (ca 1), .ref (ca 2), .ref (ca 3), .ref (ca 4), .ref (ca 5), .ref (ca 6), .ref (ca 7), .ref (ca 8), .ref (ca 9), .ref (ca 10), .ref (ca 11)]]) rfl rfl ?_
                        refine v_aload_n X dX4_readHead_112 rfl 0 rfl ?_
                        refine v_get X kcX4 fl_X4_48 dX4_readHead_113 0 rfl rfl ?_
                        refine v_getN X kcX0 fl_X4_192 dX4_readHead_116 2 rfl rfl ?_
                        refine v_iconst X dX4_readHead_119 (v := (-1)) (by decide) ?_
                        refine v_icmp_eq X dX4_readHead_120 (tgt := 127) (by decide) (fun h120 => ?_) (fun h120 => ?_)
                        · exact (nm1 h120 (by omega)).elim
                        · refine v_iconst X dX4_readHead_123 (v := nI 1) (by decide) ?_
                          refine v_goto X dX4_readHead_124 (tgt := 128) (by decide) ?_
                          exact v_zret X Y dX4_readHead_128 (by decide) (Or.inl ⟨x_22, x_62, x_102, k1_102, p1_102, n1_102, v1_102, (by unfold headF; rw [hW_12, sb_k, hW_22, sb_k, hW_52, sb_k, hW_62, sb_k, hW_92, sb_k, hW_102, sb_k]), (by assumption), (by omega), (by omega), (by omega), (by omega), rfl, rfl⟩) (by omega) (by omega)
                      · refine ⟨rfl, ?_⟩
                        refine V.cast (st' := [.int (-1), .ref (ra 3)]) (ws' := [ob hr 4 [.ref (ra 0), .int (nI fd), .ref (ra 2), .ref (ra 3), .int (nI re), .int (nI k1_92), .int (nI p1_92), .int (nI n1_92), .long v1_92, .int (nI 1), .ref (ra 10), .ref (ra 11), .ref (ra 12), .int (nI rc), .int (nI f_102), .int (nI p1_92)], aB E (ra 0) 900 tp, ob (ra 3) 0 [.int (nI x_22), .int (nI x_62), .int (nI (cy 2)), .int (nI (cy 3)), .int (nI (cy 4)), .int (nI (cy 5)), .int (nI (cy 6)), .int (nI (cy 7)), .ref (ca 0), .ref (ca 1), .ref (ca 2), .ref (ca 3), .ref (ca 4), .ref (ca 5), .ref (ca 6), .ref (ca 7), .ref (ca 8), .ref (ca 9), .ref (ca 10), .ref (ca 11)]]) rfl rfl rfl ?_
                        refine v_goto X dX4_readHead_105 (tgt := 109) (by decide) ?_
                        refine v_putN X kcX0 fl_X4_192 dX4_readHead_109 2 rfl (ws' := [ob hr 4 [.ref (ra 0), .int (nI fd), .ref (ra 2), .ref (ra 3), .int (nI re), .int (nI k1_92), .int (nI p1_92), .int (nI n1_92), .long v1_92, .int (nI 1), .ref (ra 10), .ref (ra 11), .ref (ra 12), .int (nI rc), .int (nI f_102), .int (nI p1_92)], aB E (ra 0) 900 tp, ob (ra 3) 0 [.int (nI x_22), .int (nI x_62), .int (-1), .int (nI (cy 3)), .int (nI (cy 4)), .int (nI (cy 5)), .int (nI (cy 6)), .int (nI (cy 7)), .ref (ca 0), .ref (ca 1), .ref (ca 2), .ref (ca 3), .ref (ca 4), .ref (ca 5), .ref (ca 6), .ref (ca 7), .ref (ca 8), .ref (ca 9), .ref (ca 10), .ref (ca 11)]]) rfl rfl ?_
                        refine v_aload_n X dX4_readHead_112 rfl 0 rfl ?_
                        refine v_get X kcX4 fl_X4_48 dX4_readHead_113 0 rfl rfl ?_
                        refine v_getN X kcX0 fl_X4_192 dX4_readHead_116 2 rfl rfl ?_
                        refine v_iconst X dX4_readHead_119 (v := (-1)) (by decide) ?_
                        refine v_icmp_eq X dX4_readHead_120 (tgt := 127) (by decide) (fun h120 => ?_) (fun h120 => ?_)
                        · refine v_iconst X dX4_readHead_127 (v := nI 0) (by decide) ?_
                          exact v_zret X Y dX4_readHead_128 (by decide) (Or.inr ⟨f_102, p1_92, k1_92, p1_92, n1_92, v1_92, nI x_22, nI x_62, (-1), (by unfold headF; rw [hW_12, sb_k, hW_22, sb_k, hW_52, sb_k, hW_62, sb_k, hW_92, sb_k, hW_102, sb_e]), rfl, rfl⟩) (by omega) (by omega)
                        · exact absurd rfl h120
                  · refine ⟨rfl, ?_⟩
                    refine V.cast (st' := [.int (nI 0), .ref (ra 3)]) (ws' := [ob hr 4 [.ref (ra 0), .int (nI fd), .ref (ra 2), .ref (ra 3), .int (nI re), .int (nI k1_62), .int (nI p1_62), .int (nI n1_62), .long v1_62, .int (nI 1), .ref (ra 10), .ref (ra 11), .ref (ra 12), .int (nI rc), .int (nI 1), .int (nI p1_62)], aB E (ra 0) 900 tp, ob (ra 3) 0 [.int (nI x_22), .int (nI x_62), .int (nI (cy 2)), .int (nI (cy 3)), .int (nI (cy 4)), .int (nI (cy 5)), .int (nI (cy 6)), .int (nI (cy 7)), .ref (ca 0), .ref (ca 1), .ref (ca 2), .ref (ca 3), .ref (ca 4), .ref (ca 5), .ref (ca 6), .ref (ca 7), .ref (ca 8), .ref (ca 9), .ref (ca 10), .ref (ca 11)]]) rfl rfl rfl ?_
                    refine v_ifN_eq X dX4_readHead_95 (tgt := 108) (by decide) (by decide) (fun h95 => ?_) (fun h95 => ?_)
                    · refine v_iconst X dX4_readHead_108 (v := (-1)) (by decide) ?_
                      refine v_putN X kcX0 fl_X4_192 dX4_readHead_109 2 rfl (ws' := [ob hr 4 [.ref (ra 0), .int (nI fd), .ref (ra 2), .ref (ra 3), .int (nI re), .int (nI k1_62), .int (nI p1_62), .int (nI n1_62), .long v1_62, .int (nI 1), .ref (ra 10), .ref (ra 11), .ref (ra 12), .int (nI rc), .int (nI 1), .int (nI p1_62)], aB E (ra 0) 900 tp, ob (ra 3) 0 [.int (nI x_22), .int (nI x_62), .int (-1), .int (nI (cy 3)), .int (nI (cy 4)), .int (nI (cy 5)), .int (nI (cy 6)), .int (nI (cy 7)), .ref (ca 0), .ref (ca 1), .ref (ca 2), .ref (ca 3), .ref (ca 4), .ref (ca 5), .ref (ca 6), .ref (ca 7), .ref (ca 8), .ref (ca 9), .ref (ca 10), .ref (ca 11)]]) rfl rfl ?_
                      refine v_aload_n X dX4_readHead_112 rfl 0 rfl ?_
                      refine v_get X kcX4 fl_X4_48 dX4_readHead_113 0 rfl rfl ?_
                      refine v_getN X kcX0 fl_X4_192 dX4_readHead_116 2 rfl rfl ?_
                      refine v_iconst X dX4_readHead_119 (v := (-1)) (by decide) ?_
                      refine v_icmp_eq X dX4_readHead_120 (tgt := 127) (by decide) (fun h120 => ?_) (fun h120 => ?_)
                      · refine v_iconst X dX4_readHead_127 (v := nI 0) (by decide) ?_
                        exact v_zret X Y dX4_readHead_128 (by decide) (Or.inr ⟨1, p1_62, k1_62, p1_62, n1_62, v1_62, nI x_22, nI x_62, (-1), (by unfold headF; rw [hW_12, sb_k, hW_22, sb_k, hW_52, sb_k, hW_62, sb_k, hW_92, sb_e]), rfl, rfl⟩) (by omega) (by omega)
                      · exact absurd rfl h120
                    · exfalso; omega
                · exact (nm1 h80 (by omega)).elim
              · refine ⟨rfl, ?_⟩
                refine V.cast (st' := [.int (-1), .ref (ra 3)]) (ws' := [ob hr 4 [.ref (ra 0), .int (nI fd), .ref (ra 2), .ref (ra 3), .int (nI re), .int (nI k1_52), .int (nI p1_52), .int (nI n1_52), .long v1_52, .int (nI 1), .ref (ra 10), .ref (ra 11), .ref (ra 12), .int (nI rc), .int (nI f_62), .int (nI p1_52)], aB E (ra 0) 900 tp, ob (ra 3) 0 [.int (nI x_22), .int (nI (cy 1)), .int (nI (cy 2)), .int (nI (cy 3)), .int (nI (cy 4)), .int (nI (cy 5)), .int (nI (cy 6)), .int (nI (cy 7)), .ref (ca 0), .ref (ca 1), .ref (ca 2), .ref (ca 3), .ref (ca 4), .ref (ca 5), .ref (ca 6), .ref (ca 7), .ref (ca 8), .ref (ca 9), .ref (ca 10), .ref (ca 11)]]) rfl rfl rfl ?_
                refine v_goto X dX4_readHead_65 (tgt := 69) (by decide) ?_
                refine v_putN X kcX0 fl_X4_188 dX4_readHead_69 2 rfl (ws' := [ob hr 4 [.ref (ra 0), .int (nI fd), .ref (ra 2), .ref (ra 3), .int (nI re), .int (nI k1_52), .int (nI p1_52), .int (nI n1_52), .long v1_52, .int (nI 1), .ref (ra 10), .ref (ra 11), .ref (ra 12), .int (nI rc), .int (nI f_62), .int (nI p1_52)], aB E (ra 0) 900 tp, ob (ra 3) 0 [.int (nI x_22), .int (-1), .int (nI (cy 2)), .int (nI (cy 3)), .int (nI (cy 4)), .int (nI (cy 5)), .int (nI (cy 6)), .int (nI (cy 7)), .ref (ca 0), .ref (ca 1), .ref (ca 2), .ref (ca 3), .ref (ca 4), .ref (ca 5), .ref (ca 6), .ref (ca 7), .ref (ca 8), .ref (ca 9), .ref (ca 10), .ref (ca 11)]]) rfl rfl ?_
                refine v_aload_n X dX4_readHead_72 rfl 0 rfl ?_
                refine v_get X kcX4 fl_X4_48 dX4_readHead_73 0 rfl rfl ?_
                refine v_getN X kcX0 fl_X4_188 dX4_readHead_76 2 rfl rfl ?_
                refine v_iconst X dX4_readHead_79 (v := (-1)) (by decide) ?_
                refine v_icmp_ne X dX4_readHead_80 (tgt := 85) (by decide) (fun h80 => ?_) (fun h80 => ?_)
                · exact absurd rfl h80
                · refine v_iconst X dX4_readHead_83 (v := nI 0) (by decide) ?_
                  exact v_zret X Y dX4_readHead_84 (by decide) (Or.inr ⟨f_62, p1_52, k1_52, p1_52, n1_52, v1_52, nI x_22, (-1), nI (cy 2), (by unfold headF; rw [hW_12, sb_k, hW_22, sb_k, hW_52, sb_k, hW_62, sb_e]), rfl, rfl⟩) (by omega) (by omega)
          · refine ⟨rfl, ?_⟩
            refine V.cast (st' := [.int (nI 0), .ref (ra 3)]) (ws' := [ob hr 4 [.ref (ra 0), .int (nI fd), .ref (ra 2), .ref (ra 3), .int (nI re), .int (nI k1_22), .int (nI p1_22), .int (nI n1_22), .long v1_22, .int (nI 1), .ref (ra 10), .ref (ra 11), .ref (ra 12), .int (nI rc), .int (nI 1), .int (nI p1_22)], aB E (ra 0) 900 tp, ob (ra 3) 0 [.int (nI x_22), .int (nI (cy 1)), .int (nI (cy 2)), .int (nI (cy 3)), .int (nI (cy 4)), .int (nI (cy 5)), .int (nI (cy 6)), .int (nI (cy 7)), .ref (ca 0), .ref (ca 1), .ref (ca 2), .ref (ca 3), .ref (ca 4), .ref (ca 5), .ref (ca 6), .ref (ca 7), .ref (ca 8), .ref (ca 9), .ref (ca 10), .ref (ca 11)]]) rfl rfl rfl ?_
            refine v_ifN_eq X dX4_readHead_55 (tgt := 68) (by decide) (by decide) (fun h55 => ?_) (fun h55 => ?_)
            · refine v_iconst X dX4_readHead_68 (v := (-1)) (by decide) ?_
              refine v_putN X kcX0 fl_X4_188 dX4_readHead_69 2 rfl (ws' := [ob hr 4 [.ref (ra 0), .int (nI fd), .ref (ra 2), .ref (ra 3), .int (nI re), .int (nI k1_22), .int (nI p1_22), .int (nI n1_22), .long v1_22, .int (nI 1), .ref (ra 10), .ref (ra 11), .ref (ra 12), .int (nI rc), .int (nI 1), .int (nI p1_22)], aB E (ra 0) 900 tp, ob (ra 3) 0 [.int (nI x_22), .int (-1), .int (nI (cy 2)), .int (nI (cy 3)), .int (nI (cy 4)), .int (nI (cy 5)), .int (nI (cy 6)), .int (nI (cy 7)), .ref (ca 0), .ref (ca 1), .ref (ca 2), .ref (ca 3), .ref (ca 4), .ref (ca 5), .ref (ca 6), .ref (ca 7), .ref (ca 8), .ref (ca 9), .ref (ca 10), .ref (ca 11)]]) rfl rfl ?_
              refine v_aload_n X dX4_readHead_72 rfl 0 rfl ?_
              refine v_get X kcX4 fl_X4_48 dX4_readHead_73 0 rfl rfl ?_
              refine v_getN X kcX0 fl_X4_188 dX4_readHead_76 2 rfl rfl ?_
              refine v_iconst X dX4_readHead_79 (v := (-1)) (by decide) ?_
              refine v_icmp_ne X dX4_readHead_80 (tgt := 85) (by decide) (fun h80 => ?_) (fun h80 => ?_)
              · exact absurd rfl h80
              · refine v_iconst X dX4_readHead_83 (v := nI 0) (by decide) ?_
                exact v_zret X Y dX4_readHead_84 (by decide) (Or.inr ⟨1, p1_22, k1_22, p1_22, n1_22, v1_22, nI x_22, (-1), nI (cy 2), (by unfold headF; rw [hW_12, sb_k, hW_22, sb_k, hW_52, sb_e]), rfl, rfl⟩) (by omega) (by omega)
            · exfalso; omega
        · exact (nm1 h40 (by omega)).elim
      · refine ⟨rfl, ?_⟩
        refine V.cast (st' := [.int (-1), .ref (ra 3)]) (ws' := [ob hr 4 [.ref (ra 0), .int (nI fd), .ref (ra 2), .ref (ra 3), .int (nI re), .int (nI k1_12), .int (nI p1_12), .int (nI n1_12), .long v1_12, .int (nI 1), .ref (ra 10), .ref (ra 11), .ref (ra 12), .int (nI rc), .int (nI f_22), .int (nI p1_12)], aB E (ra 0) 900 tp, ob (ra 3) 0 [.int (nI (cy 0)), .int (nI (cy 1)), .int (nI (cy 2)), .int (nI (cy 3)), .int (nI (cy 4)), .int (nI (cy 5)), .int (nI (cy 6)), .int (nI (cy 7)), .ref (ca 0), .ref (ca 1), .ref (ca 2), .ref (ca 3), .ref (ca 4), .ref (ca 5), .ref (ca 6), .ref (ca 7), .ref (ca 8), .ref (ca 9), .ref (ca 10), .ref (ca 11)]]) rfl rfl rfl ?_
        refine v_goto X dX4_readHead_25 (tgt := 29) (by decide) ?_
        refine v_putN X kcX0 fl_X4_184 dX4_readHead_29 2 rfl (ws' := [ob hr 4 [.ref (ra 0), .int (nI fd), .ref (ra 2), .ref (ra 3), .int (nI re), .int (nI k1_12), .int (nI p1_12), .int (nI n1_12), .long v1_12, .int (nI 1), .ref (ra 10), .ref (ra 11), .ref (ra 12), .int (nI rc), .int (nI f_22), .int (nI p1_12)], aB E (ra 0) 900 tp, ob (ra 3) 0 [.int (-1), .int (nI (cy 1)), .int (nI (cy 2)), .int (nI (cy 3)), .int (nI (cy 4)), .int (nI (cy 5)), .int (nI (cy 6)), .int (nI (cy 7)), .ref (ca 0), .ref (ca 1), .ref (ca 2), .ref (ca 3), .ref (ca 4), .ref (ca 5), .ref (ca 6), .ref (ca 7), .ref (ca 8), .ref (ca 9), .ref (ca 10), .ref (ca 11)]]) rfl rfl ?_
        refine v_aload_n X dX4_readHead_32 rfl 0 rfl ?_
        refine v_get X kcX4 fl_X4_48 dX4_readHead_33 0 rfl rfl ?_
        refine v_getN X kcX0 fl_X4_184 dX4_readHead_36 2 rfl rfl ?_
        refine v_iconst X dX4_readHead_39 (v := (-1)) (by decide) ?_
        refine v_icmp_ne X dX4_readHead_40 (tgt := 45) (by decide) (fun h40 => ?_) (fun h40 => ?_)
        · exact absurd rfl h40
        · refine v_iconst X dX4_readHead_43 (v := nI 0) (by decide) ?_
          exact v_zret X Y dX4_readHead_44 (by decide) (Or.inr ⟨f_22, p1_12, k1_12, p1_12, n1_12, v1_12, (-1), nI (cy 1), nI (cy 2), (by unfold headF; rw [hW_12, sb_k, hW_22, sb_e]), rfl, rfl⟩) (by omega) (by omega)
  · refine ⟨rfl, ?_⟩
    refine V.cast (st' := [.int (nI 0), .ref (ra 3)]) (ws' := [ob hr 4 [.ref (ra 0), .int (nI fd), .ref (ra 2), .ref (ra 3), .int (nI re), .int (nI rk), .int (nI rp), .int (nI rn), .long rv, .int (nI 1), .ref (ra 10), .ref (ra 11), .ref (ra 12), .int (nI rc), .int (nI 1), .int (nI rp)], aB E (ra 0) 900 tp, ob (ra 3) 0 [.int (nI (cy 0)), .int (nI (cy 1)), .int (nI (cy 2)), .int (nI (cy 3)), .int (nI (cy 4)), .int (nI (cy 5)), .int (nI (cy 6)), .int (nI (cy 7)), .ref (ca 0), .ref (ca 1), .ref (ca 2), .ref (ca 3), .ref (ca 4), .ref (ca 5), .ref (ca 6), .ref (ca 7), .ref (ca 8), .ref (ca 9), .ref (ca 10), .ref (ca 11)]]) rfl rfl rfl ?_
    refine v_ifN_eq X dX4_readHead_15 (tgt := 28) (by decide) (by decide) (fun h15 => ?_) (fun h15 => ?_)
    · refine v_iconst X dX4_readHead_28 (v := (-1)) (by decide) ?_
      refine v_putN X kcX0 fl_X4_184 dX4_readHead_29 2 rfl (ws' := [ob hr 4 [.ref (ra 0), .int (nI fd), .ref (ra 2), .ref (ra 3), .int (nI re), .int (nI rk), .int (nI rp), .int (nI rn), .long rv, .int (nI 1), .ref (ra 10), .ref (ra 11), .ref (ra 12), .int (nI rc), .int (nI 1), .int (nI rp)], aB E (ra 0) 900 tp, ob (ra 3) 0 [.int (-1), .int (nI (cy 1)), .int (nI (cy 2)), .int (nI (cy 3)), .int (nI (cy 4)), .int (nI (cy 5)), .int (nI (cy 6)), .int (nI (cy 7)), .ref (ca 0), .ref (ca 1), .ref (ca 2), .ref (ca 3), .ref (ca 4), .ref (ca 5), .ref (ca 6), .ref (ca 7), .ref (ca 8), .ref (ca 9), .ref (ca 10), .ref (ca 11)]]) rfl rfl ?_
      refine v_aload_n X dX4_readHead_32 rfl 0 rfl ?_
      refine v_get X kcX4 fl_X4_48 dX4_readHead_33 0 rfl rfl ?_
      refine v_getN X kcX0 fl_X4_184 dX4_readHead_36 2 rfl rfl ?_
      refine v_iconst X dX4_readHead_39 (v := (-1)) (by decide) ?_
      refine v_icmp_ne X dX4_readHead_40 (tgt := 45) (by decide) (fun h40 => ?_) (fun h40 => ?_)
      · exact absurd rfl h40
      · refine v_iconst X dX4_readHead_43 (v := nI 0) (by decide) ?_
        exact v_zret X Y dX4_readHead_44 (by decide) (Or.inr ⟨1, rp, rk, rp, rn, rv, (-1), nI (cy 1), nI (cy 2), (by unfold headF; rw [hW_12, sb_e]), rfl, rfl⟩) (by omega) (by omega)
    · exfalso; omega
set_option maxRecDepth 100000 in
set_option maxHeartbeats 4000000 in
theorem c_X4_readMan (l : Launch) (E : Et) (hr : Nat) (ra : Nat → Nat) (fd : Nat) (re : Nat) (rk : Nat) (rp : Nat) (rn : Nat) (rv : Int64) (rh : Bool) (rc : Nat) (rf : Nat) (rw : Int32) (tp : Nat → Int32) (kwd : Nat → Int64) (nms : Nat → Int64) (nso : Nat → Nat) (nnu : Nat → Nat) (cy : Nat → Nat) (ca : Nat → Nat) (hre : re ≤ 900) (hT : tkO re (rk, rp, rn, rv)) (hrc : rc ≤ 18) : Ct l E yX4_readMan cX4_readMan 1 (some .boolean) 5 0 0 [.ref hr] [ob hr 4 [.ref (ra 0), .int (nI fd), .ref (ra 2), .ref (ra 3), .int (nI re), .int (nI rk), .int (nI rp), .int (nI rn), .long rv, .int (nI (rh).toNat), .ref (ra 10), .ref (ra 11), .ref (ra 12), .int (nI rc), .int (nI rf), .int rw], aB E (ra 0) 900 tp, aL E (ra 2) 6 kwd, aL E (ra 10) 18 nms, aN E (ra 11) 18 nso, aN E (ra 12) 18 nnu, ob (ra 3) 0 [.int (nI (cy 0)), .int (nI (cy 1)), .int (nI (cy 2)), .int (nI (cy 3)), .int (nI (cy 4)), .int (nI (cy 5)), .int (nI (cy 6)), .int (nI (cy 7)), .ref (ca 0), .ref (ca 1), .ref (ca 2), .ref (ca 3), .ref (ca 4), .ref (ca 5), .ref (ca 6), .ref (ca 7), .ref (ca 8), .ref (ca 9), .ref (ca 10), .ref (ca 11)]] ((fun r w => (∃ (k1 : Nat) (p1 : Nat) (n1 : Nat) (v1 : Int64), (nmS tp re kwd 1 (cy 3) (rc, nms, nso, nnu) (rk, rp, rn, rv) = .inr ((rc + 1, vp_updL nms rc rv, upN nso rc 1, upN nnu rc (cy 3)), (k1, p1, n1, v1))) ∧ (tkO re (k1, p1, n1, v1)) ∧ (rn ≤ p1) ∧ (rc < 18) ∧ w = [ob hr 4 [.ref (ra 0), .int (nI fd), .ref (ra 2), .ref (ra 3), .int (nI re), .int (nI k1), .int (nI p1), .int (nI n1), .long v1, .int (nI (rh).toNat), .ref (ra 10), .ref (ra 11), .ref (ra 12), .int (nI (rc + 1)), .int (nI rf), .int rw], aB E (ra 0) 900 tp, aL E (ra 2) 6 kwd, aL E (ra 10) 18 (vp_updL nms rc rv), aN E (ra 11) 18 (upN nso rc 1), aN E (ra 12) 18 (upN nnu rc (cy 3)), ob (ra 3) 0 [.int (nI (cy 0)), .int (nI (cy 1)), .int (nI (cy 2)), .int (nI (cy 3 + 1)), .int (nI (cy 4)), .int (nI (cy 5)), .int (nI (cy 6)), .int (nI (cy 7)), .ref (ca 0), .ref (ca 1), .ref (ca 2), .ref (ca 3), .ref (ca 4), .ref (ca 5), .ref (ca 6), .ref (ca 7), .ref (ca 8), .ref (ca 9), .ref (ca 10), .ref (ca 11)]] ∧ r = some (.int (nI 1))) ∨ (∃ (f : Nat) (p : Nat) (k1 : Nat) (p1 : Nat) (n1 : Nat) (v1 : Int64), (nmS tp re kwd 1 (cy 3) (rc, nms, nso, nnu) (rk, rp, rn, rv) = .inl (f, p)) ∧ w = [ob hr 4 [.ref (ra 0), .int (nI fd), .ref (ra 2), .ref (ra 3), .int (nI re), .int (nI k1), .int (nI p1), .int (nI n1), .long v1, .int (nI (rh).toNat), .ref (ra 10), .ref (ra 11), .ref (ra 12), .int (nI rc), .int (nI f), .int (nI p)], aB E (ra 0) 900 tp, aL E (ra 2) 6 kwd, aL E (ra 10) 18 nms, aN E (ra 11) 18 nso, aN E (ra 12) 18 nnu, ob (ra 3) 0 [.int (nI (cy 0)), .int (nI (cy 1)), .int (nI (cy 2)), .int (nI (cy 3)), .int (nI (cy 4)), .int (nI (cy 5)), .int (nI (cy 6)), .int (nI (cy 7)), .ref (ca 0), .ref (ca 1), .ref (ca 2), .ref (ca 3), .ref (ca 4), .ref (ca 5), .ref (ca 6), .ref (ca 7), .ref (ca 8), .ref (ca 9), .ref (ca 10), .ref (ca 11)]] ∧ r = some (.int (nI 0))))) := by
  refine Ct.intro (by decide +kernel) (Nat.le_of_ble_eq_true rfl) (lv := [(0, .ref hr)]) rfl ?_
  intro Z X Y
  refine v_aload_n X dX4_readMan_0 rfl 0 rfl ?_
  refine v_iconst X dX4_readMan_1 (v := nI 1) (by decide) ?_
  refine v_aload_n X dX4_readMan_2 rfl 0 rfl ?_
  refine v_get X kcX4 fl_X4_48 dX4_readMan_3 0 rfl rfl ?_
  refine v_getN X kcX0 fl_X4_93 dX4_readMan_6 6 rfl rfl ?_
  refine v_wr X (rn_V X k_X4_tellsName ml_X4_194 dX4_readMan_9 (c_X4_tellsNameA l E hr ra fd re rk rp rn rv rh rc rf rw tp kwd nms nso nnu 1 (cy 3) (by first | assumption | omega) (by first | assumption | omega) (by first | assumption | omega)) rfl 0 rfl rfl (by decide) (by decide) (by omega) (by omega) (Nat.le_of_ble_eq_true rfl)) [0, 1, 2, 3, 4, 5] rfl rfl (fun r w1 hpo => ?_)
  rcases hpo with ⟨k1_9, p1_9, n1_9, v1_9, hW_9, hc_9, hO_9, hP_9, rfl, rfl⟩ | ⟨f_9, hW_9, rfl, rfl⟩
  · refine ⟨rfl, ?_⟩
    refine V.cast (st' := [.int (nI 1)]) (ws' := [ob hr 4 [.ref (ra 0), .int (nI fd), .ref (ra 2), .ref (ra 3), .int (nI re), .int (nI k1_9), .int (nI p1_9), .int (nI n1_9), .long v1_9, .int (nI (rh).toNat), .ref (ra 10), .ref (ra 11), .ref (ra 12), .int (nI (rc + 1)), .int (nI rf), .int rw], aB E (ra 0) 900 tp, aL E (ra 2) 6 kwd, aL E (ra 10) 18 (vp_updL nms rc rv), aN E (ra 11) 18 (upN nso rc 1), aN E (ra 12) 18 (upN nnu rc (cy 3)), ob (ra 3) 0 [.int (nI (cy 0)), .int (nI (cy 1)), .int (nI (cy 2)), .int (nI (cy 3)), .int (nI (cy 4)), .int (nI (cy 5)), .int (nI (cy 6)), .int (nI (cy 7)), .ref (ca 0), .ref (ca 1), .ref (ca 2), .ref (ca 3), .ref (ca 4), .ref (ca 5), .ref (ca 6), .ref (ca 7), .ref (ca 8), .ref (ca 9), .ref (ca 10), .ref (ca 11)]]) rfl rfl rfl ?_
    have hQ_9 : p1_9 ≤ n1_9 := hO_9.2.1
    refine v_ifN_ne X dX4_readMan_12 (tgt := 17) (by decide) (by decide) (fun h12 => ?_) (fun h12 => ?_)
    · refine v_aload_n X dX4_readMan_17 rfl 0 rfl ?_
      refine v_get X kcX4 fl_X4_48 dX4_readMan_18 0 rfl rfl ?_
      refine v_dup X dX4_readMan_21 rfl ?_
      refine v_getN X kcX0 fl_X4_93 dX4_readMan_22 6 rfl rfl ?_
      refine v_iconst X dX4_readMan_25 (v := nI 1) (by decide) ?_
      refine v_iadd X dX4_readMan_26 ?_
      refine v_eqi (x' := nI ((cy 3) + 1)) (nI_add _ _) ?_
      refine v_putN X kcX0 fl_X4_93 dX4_readMan_27 6 rfl (ws' := [ob hr 4 [.ref (ra 0), .int (nI fd), .ref (ra 2), .ref (ra 3), .int (nI re), .int (nI k1_9), .int (nI p1_9), .int (nI n1_9), .long v1_9, .int (nI (rh).toNat), .ref (ra 10), .ref (ra 11), .ref (ra 12), .int (nI (rc + 1)), .int (nI rf), .int rw], aB E (ra 0) 900 tp, aL E (ra 2) 6 kwd, aL E (ra 10) 18 (vp_updL nms rc rv), aN E (ra 11) 18 (upN nso rc 1), aN E (ra 12) 18 (upN nnu rc (cy 3)), ob (ra 3) 0 [.int (nI (cy 0)), .int (nI (cy 1)), .int (nI (cy 2)), .int (nI ((cy 3) + 1)), .int (nI (cy 4)), .int (nI (cy 5)), .int (nI (cy 6)), .int (nI (cy 7)), .ref (ca 0), .ref (ca 1), .ref (ca 2), .ref (ca 3), .ref (ca 4), .ref (ca 5), .ref (ca 6), .ref (ca 7), .ref (ca 8), .ref (ca 9), .ref (ca 10), .ref (ca 11)]]) rfl rfl ?_
      refine v_iconst X dX4_readMan_30 (v := nI 1) (by decide) ?_
      exact v_zret X Y dX4_readMan_31 (by decide) (Or.inl ⟨k1_9, p1_9, n1_9, v1_9, (hW_9), (hO_9), (hP_9), (hc_9), rfl, rfl⟩) (by omega) (by omega)
    · exfalso; omega
  · refine ⟨rfl, ?_⟩
    refine V.cast (st' := [.int (nI 0)]) (ws' := [ob hr 4 [.ref (ra 0), .int (nI fd), .ref (ra 2), .ref (ra 3), .int (nI re), .int (nI rk), .int (nI rp), .int (nI rn), .long rv, .int (nI (rh).toNat), .ref (ra 10), .ref (ra 11), .ref (ra 12), .int (nI rc), .int (nI f_9), .int (nI rp)], aB E (ra 0) 900 tp, aL E (ra 2) 6 kwd, aL E (ra 10) 18 nms, aN E (ra 11) 18 nso, aN E (ra 12) 18 nnu, ob (ra 3) 0 [.int (nI (cy 0)), .int (nI (cy 1)), .int (nI (cy 2)), .int (nI (cy 3)), .int (nI (cy 4)), .int (nI (cy 5)), .int (nI (cy 6)), .int (nI (cy 7)), .ref (ca 0), .ref (ca 1), .ref (ca 2), .ref (ca 3), .ref (ca 4), .ref (ca 5), .ref (ca 6), .ref (ca 7), .ref (ca 8), .ref (ca 9), .ref (ca 10), .ref (ca 11)]]) rfl rfl rfl ?_
    refine v_ifN_ne X dX4_readMan_12 (tgt := 17) (by decide) (by decide) (fun h12 => ?_) (fun h12 => ?_)
    · exfalso; omega
    · refine v_iconst X dX4_readMan_15 (v := nI 0) (by decide) ?_
      exact v_zret X Y dX4_readMan_16 (by decide) (Or.inr ⟨f_9, rp, rk, rp, rn, rv, (hW_9), rfl, rfl⟩) (by omega) (by omega)
set_option maxRecDepth 100000 in
set_option maxHeartbeats 4000000 in
theorem c_X4_readDeed (l : Launch) (E : Et) (hr : Nat) (ra : Nat → Nat) (fd : Nat) (re : Nat) (rk : Nat) (rp : Nat) (rn : Nat) (rv : Int64) (rh : Bool) (rc : Nat) (rf : Nat) (rw : Int32) (tp : Nat → Int32) (kwd : Nat → Int64) (nms : Nat → Int64) (nso : Nat → Nat) (nnu : Nat → Nat) (cy : Nat → Nat) (ca : Nat → Nat) (hre : re ≤ 900) (hT : tkO re (rk, rp, rn, rv)) (hrc : rc ≤ 18) : Ct l E yX4_readDeed cX4_readDeed 1 (some .boolean) 5 0 0 [.ref hr] [ob hr 4 [.ref (ra 0), .int (nI fd), .ref (ra 2), .ref (ra 3), .int (nI re), .int (nI rk), .int (nI rp), .int (nI rn), .long rv, .int (nI (rh).toNat), .ref (ra 10), .ref (ra 11), .ref (ra 12), .int (nI rc), .int (nI rf), .int rw], aB E (ra 0) 900 tp, aL E (ra 2) 6 kwd, aL E (ra 10) 18 nms, aN E (ra 11) 18 nso, aN E (ra 12) 18 nnu, ob (ra 3) 0 [.int (nI (cy 0)), .int (nI (cy 1)), .int (nI (cy 2)), .int (nI (cy 3)), .int (nI (cy 4)), .int (nI (cy 5)), .int (nI (cy 6)), .int (nI (cy 7)), .ref (ca 0), .ref (ca 1), .ref (ca 2), .ref (ca 3), .ref (ca 4), .ref (ca 5), .ref (ca 6), .ref (ca 7), .ref (ca 8), .ref (ca 9), .ref (ca 10), .ref (ca 11)]] ((fun r w => (∃ (k1 : Nat) (p1 : Nat) (n1 : Nat) (v1 : Int64), (nmS tp re kwd 2 (cy 4) (rc, nms, nso, nnu) (rk, rp, rn, rv) = .inr ((rc + 1, vp_updL nms rc rv, upN nso rc 2, upN nnu rc (cy 4)), (k1, p1, n1, v1))) ∧ (tkO re (k1, p1, n1, v1)) ∧ (rn ≤ p1) ∧ (rc < 18) ∧ w = [ob hr 4 [.ref (ra 0), .int (nI fd), .ref (ra 2), .ref (ra 3), .int (nI re), .int (nI k1), .int (nI p1), .int (nI n1), .long v1, .int (nI (rh).toNat), .ref (ra 10), .ref (ra 11), .ref (ra 12), .int (nI (rc + 1)), .int (nI rf), .int rw], aB E (ra 0) 900 tp, aL E (ra 2) 6 kwd, aL E (ra 10) 18 (vp_updL nms rc rv), aN E (ra 11) 18 (upN nso rc 2), aN E (ra 12) 18 (upN nnu rc (cy 4)), ob (ra 3) 0 [.int (nI (cy 0)), .int (nI (cy 1)), .int (nI (cy 2)), .int (nI (cy 3)), .int (nI (cy 4 + 1)), .int (nI (cy 5)), .int (nI (cy 6)), .int (nI (cy 7)), .ref (ca 0), .ref (ca 1), .ref (ca 2), .ref (ca 3), .ref (ca 4), .ref (ca 5), .ref (ca 6), .ref (ca 7), .ref (ca 8), .ref (ca 9), .ref (ca 10), .ref (ca 11)]] ∧ r = some (.int (nI 1))) ∨ (∃ (f : Nat) (p : Nat) (k1 : Nat) (p1 : Nat) (n1 : Nat) (v1 : Int64), (nmS tp re kwd 2 (cy 4) (rc, nms, nso, nnu) (rk, rp, rn, rv) = .inl (f, p)) ∧ w = [ob hr 4 [.ref (ra 0), .int (nI fd), .ref (ra 2), .ref (ra 3), .int (nI re), .int (nI k1), .int (nI p1), .int (nI n1), .long v1, .int (nI (rh).toNat), .ref (ra 10), .ref (ra 11), .ref (ra 12), .int (nI rc), .int (nI f), .int (nI p)], aB E (ra 0) 900 tp, aL E (ra 2) 6 kwd, aL E (ra 10) 18 nms, aN E (ra 11) 18 nso, aN E (ra 12) 18 nnu, ob (ra 3) 0 [.int (nI (cy 0)), .int (nI (cy 1)), .int (nI (cy 2)), .int (nI (cy 3)), .int (nI (cy 4)), .int (nI (cy 5)), .int (nI (cy 6)), .int (nI (cy 7)), .ref (ca 0), .ref (ca 1), .ref (ca 2), .ref (ca 3), .ref (ca 4), .ref (ca 5), .ref (ca 6), .ref (ca 7), .ref (ca 8), .ref (ca 9), .ref (ca 10), .ref (ca 11)]] ∧ r = some (.int (nI 0))))) := by
  refine Ct.intro (by decide +kernel) (Nat.le_of_ble_eq_true rfl) (lv := [(0, .ref hr)]) rfl ?_
  intro Z X Y
  refine v_aload_n X dX4_readDeed_0 rfl 0 rfl ?_
  refine v_iconst X dX4_readDeed_1 (v := nI 2) (by decide) ?_
  refine v_aload_n X dX4_readDeed_2 rfl 0 rfl ?_
  refine v_get X kcX4 fl_X4_48 dX4_readDeed_3 0 rfl rfl ?_
  refine v_getN X kcX0 fl_X4_96 dX4_readDeed_6 6 rfl rfl ?_
  refine v_wr X (rn_V X k_X4_tellsName ml_X4_194 dX4_readDeed_9 (c_X4_tellsNameA l E hr ra fd re rk rp rn rv rh rc rf rw tp kwd nms nso nnu 2 (cy 4) (by first | assumption | omega) (by first | assumption | omega) (by first | assumption | omega)) rfl 0 rfl rfl (by decide) (by decide) (by omega) (by omega) (Nat.le_of_ble_eq_true rfl)) [0, 1, 2, 3, 4, 5] rfl rfl (fun r w1 hpo => ?_)
  rcases hpo with ⟨k1_9, p1_9, n1_9, v1_9, hW_9, hc_9, hO_9, hP_9, rfl, rfl⟩ | ⟨f_9, hW_9, rfl, rfl⟩
  · refine ⟨rfl, ?_⟩
    refine V.cast (st' := [.int (nI 1)]) (ws' := [ob hr 4 [.ref (ra 0), .int (nI fd), .ref (ra 2), .ref (ra 3), .int (nI re), .int (nI k1_9), .int (nI p1_9), .int (nI n1_9), .long v1_9, .int (nI (rh).toNat), .ref (ra 10), .ref (ra 11), .ref (ra 12), .int (nI (rc + 1)), .int (nI rf), .int rw], aB E (ra 0) 900 tp, aL E (ra 2) 6 kwd, aL E (ra 10) 18 (vp_updL nms rc rv), aN E (ra 11) 18 (upN nso rc 2), aN E (ra 12) 18 (upN nnu rc (cy 4)), ob (ra 3) 0 [.int (nI (cy 0)), .int (nI (cy 1)), .int (nI (cy 2)), .int (nI (cy 3)), .int (nI (cy 4)), .int (nI (cy 5)), .int (nI (cy 6)), .int (nI (cy 7)), .ref (ca 0), .ref (ca 1), .ref (ca 2), .ref (ca 3), .ref (ca 4), .ref (ca 5), .ref (ca 6), .ref (ca 7), .ref (ca 8), .ref (ca 9), .ref (ca 10), .ref (ca 11)]]) rfl rfl rfl ?_
    have hQ_9 : p1_9 ≤ n1_9 := hO_9.2.1
    refine v_ifN_ne X dX4_readDeed_12 (tgt := 17) (by decide) (by decide) (fun h12 => ?_) (fun h12 => ?_)
    · refine v_aload_n X dX4_readDeed_17 rfl 0 rfl ?_
      refine v_get X kcX4 fl_X4_48 dX4_readDeed_18 0 rfl rfl ?_
      refine v_dup X dX4_readDeed_21 rfl ?_
      refine v_getN X kcX0 fl_X4_96 dX4_readDeed_22 6 rfl rfl ?_
      refine v_iconst X dX4_readDeed_25 (v := nI 1) (by decide) ?_
      refine v_iadd X dX4_readDeed_26 ?_
      refine v_eqi (x' := nI ((cy 4) + 1)) (nI_add _ _) ?_
      refine v_putN X kcX0 fl_X4_96 dX4_readDeed_27 6 rfl (ws' := [ob hr 4 [.ref (ra 0), .int (nI fd), .ref (ra 2), .ref (ra 3), .int (nI re), .int (nI k1_9), .int (nI p1_9), .int (nI n1_9), .long v1_9, .int (nI (rh).toNat), .ref (ra 10), .ref (ra 11), .ref (ra 12), .int (nI (rc + 1)), .int (nI rf), .int rw], aB E (ra 0) 900 tp, aL E (ra 2) 6 kwd, aL E (ra 10) 18 (vp_updL nms rc rv), aN E (ra 11) 18 (upN nso rc 2), aN E (ra 12) 18 (upN nnu rc (cy 4)), ob (ra 3) 0 [.int (nI (cy 0)), .int (nI (cy 1)), .int (nI (cy 2)), .int (nI (cy 3)), .int (nI ((cy 4) + 1)), .int (nI (cy 5)), .int (nI (cy 6)), .int (nI (cy 7)), .ref (ca 0), .ref (ca 1), .ref (ca 2), .ref (ca 3), .ref (ca 4), .ref (ca 5), .ref (ca 6), .ref (ca 7), .ref (ca 8), .ref (ca 9), .ref (ca 10), .ref (ca 11)]]) rfl rfl ?_
      refine v_iconst X dX4_readDeed_30 (v := nI 1) (by decide) ?_
      exact v_zret X Y dX4_readDeed_31 (by decide) (Or.inl ⟨k1_9, p1_9, n1_9, v1_9, (hW_9), (hO_9), (hP_9), (hc_9), rfl, rfl⟩) (by omega) (by omega)
    · exfalso; omega
  · refine ⟨rfl, ?_⟩
    refine V.cast (st' := [.int (nI 0)]) (ws' := [ob hr 4 [.ref (ra 0), .int (nI fd), .ref (ra 2), .ref (ra 3), .int (nI re), .int (nI rk), .int (nI rp), .int (nI rn), .long rv, .int (nI (rh).toNat), .ref (ra 10), .ref (ra 11), .ref (ra 12), .int (nI rc), .int (nI f_9), .int (nI rp)], aB E (ra 0) 900 tp, aL E (ra 2) 6 kwd, aL E (ra 10) 18 nms, aN E (ra 11) 18 nso, aN E (ra 12) 18 nnu, ob (ra 3) 0 [.int (nI (cy 0)), .int (nI (cy 1)), .int (nI (cy 2)), .int (nI (cy 3)), .int (nI (cy 4)), .int (nI (cy 5)), .int (nI (cy 6)), .int (nI (cy 7)), .ref (ca 0), .ref (ca 1), .ref (ca 2), .ref (ca 3), .ref (ca 4), .ref (ca 5), .ref (ca 6), .ref (ca 7), .ref (ca 8), .ref (ca 9), .ref (ca 10), .ref (ca 11)]]) rfl rfl rfl ?_
    refine v_ifN_ne X dX4_readDeed_12 (tgt := 17) (by decide) (by decide) (fun h12 => ?_) (fun h12 => ?_)
    · exfalso; omega
    · refine v_iconst X dX4_readDeed_15 (v := nI 0) (by decide) ?_
      exact v_zret X Y dX4_readDeed_16 (by decide) (Or.inr ⟨f_9, rp, rk, rp, rn, rv, (hW_9), rfl, rfl⟩) (by omega) (by omega)
set_option maxRecDepth 100000 in
set_option maxHeartbeats 4000000 in
theorem c_X4_formHere (l : Launch) (E : Et) (hr : Nat) (ra : Nat → Nat) (fd : Nat) (re : Nat) (rk : Nat) (rp : Nat) (rn : Nat) (rv : Int64) (rh : Bool) (rc : Nat) (rf : Nat) (rw : Int32) (hrk : rk ≤ 5) : Ct l E yX4_formHere cX4_formHere 1 (some .int) 6 0 0 [.ref hr] [ob hr 4 [.ref (ra 0), .int (nI fd), .ref (ra 2), .ref (ra 3), .int (nI re), .int (nI rk), .int (nI rp), .int (nI rn), .long rv, .int (nI (rh).toNat), .ref (ra 10), .ref (ra 11), .ref (ra 12), .int (nI rc), .int (nI rf), .int rw]] (roI [ob hr 4 [.ref (ra 0), .int (nI fd), .ref (ra 2), .ref (ra 3), .int (nI re), .int (nI rk), .int (nI rp), .int (nI rn), .long rv, .int (nI (rh).toNat), .ref (ra 10), .ref (ra 11), .ref (ra 12), .int (nI rc), .int (nI rf), .int rw]] (optJ (fst_ (foP rk rv) 6 0))) := by
  refine Ct.intro (by decide +kernel) (Nat.le_of_ble_eq_true rfl) (lv := [(0, .ref hr)]) rfl ?_
  intro Z X Y
  refine v_aload_n X dX4_formHere_0 rfl 0 rfl ?_
  refine v_ldcS X dX4_formHere_1 (i := 11) (tx := "must") (by decide) ?_
  refine v_roI1 X (rn_V X k_X4_stands ml_X4_130 dX4_formHere_3 (c_X4_stands l E hr ra fd re rk rp rn rv rh rc rf rw 11 (by decide) (by first | assumption | omega)) rfl 0 rfl rfl (by decide) (by decide) (by omega) (by omega) (Nat.le_of_ble_eq_true rfl)) [0] rfl rfl ?_
  refine v_ifB_eq X dX4_formHere_6 (tgt := 11) (by decide) (fun h6 => ?_) (fun h6 => ?_)
  · refine v_aload_n X dX4_formHere_11 rfl 0 rfl ?_
    refine v_ldcS X dX4_formHere_12 (i := 12) (tx := "mustnt") (by decide) ?_
    refine v_roI1 X (rn_V X k_X4_stands ml_X4_130 dX4_formHere_14 (c_X4_stands l E hr ra fd re rk rp rn rv rh rc rf rw 12 (by decide) (by first | assumption | omega)) rfl 0 rfl rfl (by decide) (by decide) (by omega) (by omega) (Nat.le_of_ble_eq_true rfl)) [0] rfl rfl ?_
    refine v_ifB_eq X dX4_formHere_17 (tgt := 22) (by decide) (fun h17 => ?_) (fun h17 => ?_)
    · refine v_aload_n X dX4_formHere_22 rfl 0 rfl ?_
      refine v_ldcS X dX4_formHere_23 (i := 13) (tx := "if") (by decide) ?_
      refine v_roI1 X (rn_V X k_X4_stands ml_X4_130 dX4_formHere_25 (c_X4_stands l E hr ra fd re rk rp rn rv rh rc rf rw 13 (by decide) (by first | assumption | omega)) rfl 0 rfl rfl (by decide) (by decide) (by omega) (by omega) (Nat.le_of_ble_eq_true rfl)) [0] rfl rfl ?_
      refine v_ifB_eq X dX4_formHere_28 (tgt := 33) (by decide) (fun h28 => ?_) (fun h28 => ?_)
      · refine v_aload_n X dX4_formHere_33 rfl 0 rfl ?_
        refine v_ldcS X dX4_formHere_34 (i := 14) (tx := "unless") (by decide) ?_
        refine v_roI1 X (rn_V X k_X4_stands ml_X4_130 dX4_formHere_36 (c_X4_stands l E hr ra fd re rk rp rn rv rh rc rf rw 14 (by decide) (by first | assumption | omega)) rfl 0 rfl rfl (by decide) (by decide) (by omega) (by omega) (Nat.le_of_ble_eq_true rfl)) [0] rfl rfl ?_
        refine v_ifB_eq X dX4_formHere_39 (tgt := 44) (by decide) (fun h39 => ?_) (fun h39 => ?_)
        · refine v_aload_n X dX4_formHere_44 rfl 0 rfl ?_
          refine v_ldcS X dX4_formHere_45 (i := 15) (tx := "notboth") (by decide) ?_
          refine v_roI1 X (rn_V X k_X4_stands ml_X4_130 dX4_formHere_47 (c_X4_stands l E hr ra fd re rk rp rn rv rh rc rf rw 15 (by decide) (by first | assumption | omega)) rfl 0 rfl rfl (by decide) (by decide) (by omega) (by omega) (Nat.le_of_ble_eq_true rfl)) [0] rfl rfl ?_
          refine v_ifB_eq X dX4_formHere_50 (tgt := 55) (by decide) (fun h50 => ?_) (fun h50 => ?_)
          · refine v_aload_n X dX4_formHere_55 rfl 0 rfl ?_
            refine v_ldcS X dX4_formHere_56 (i := 16) (tx := "either") (by decide) ?_
            refine v_roI1 X (rn_V X k_X4_stands ml_X4_130 dX4_formHere_58 (c_X4_stands l E hr ra fd re rk rp rn rv rh rc rf rw 16 (by decide) (by first | assumption | omega)) rfl 0 rfl rfl (by decide) (by decide) (by omega) (by omega) (Nat.le_of_ble_eq_true rfl)) [0] rfl rfl ?_
            refine v_ifB_eq X dX4_formHere_61 (tgt := 68) (by decide) (fun h61 => ?_) (fun h61 => ?_)
            · refine v_iconst X dX4_formHere_68 (v := (-1)) (by decide) ?_
              exact v_iret X Y dX4_formHere_69 (roI_of (by rw [fst_none (p := foP rk rv) (n := 6) (fun m' hm' => fo_c6 m' hm' h6 h17 h28 h39 h50 h61)]; rfl)) (by omega) (by omega)
            · refine v_iconst X dX4_formHere_64 (v := nI 5) (by decide) ?_
              refine v_goto X dX4_formHere_65 (tgt := 69) (by decide) ?_
              exact v_iret X Y dX4_formHere_69 (roI_of (by rw [fst_mv (p := foP rk rv) (n := 6) (m := 5) (by decide) (fun m' hm' => fo_c5 m' hm' h6 h17 h28 h39 h50), fst_hit (p := foP rk rv) (m := 6) (c := 5) (by decide) h61]; rfl)) (by omega) (by omega)
          · refine v_iconst X dX4_formHere_53 (v := nI 4) (by decide) ?_
            exact v_iret X Y dX4_formHere_54 (roI_of (by rw [fst_mv (p := foP rk rv) (n := 6) (m := 4) (by decide) (fun m' hm' => fo_c4 m' hm' h6 h17 h28 h39), fst_hit (p := foP rk rv) (m := 6) (c := 4) (by decide) h50]; rfl)) (by omega) (by omega)
        · refine v_iconst X dX4_formHere_42 (v := nI 3) (by decide) ?_
          exact v_iret X Y dX4_formHere_43 (roI_of (by rw [fst_mv (p := foP rk rv) (n := 6) (m := 3) (by decide) (fun m' hm' => fo_c3 m' hm' h6 h17 h28), fst_hit (p := foP rk rv) (m := 6) (c := 3) (by decide) h39]; rfl)) (by omega) (by omega)
      · refine v_iconst X dX4_formHere_31 (v := nI 2) (by decide) ?_
        exact v_iret X Y dX4_formHere_32 (roI_of (by rw [fst_mv (p := foP rk rv) (n := 6) (m := 2) (by decide) (fun m' hm' => fo_c2 m' hm' h6 h17), fst_hit (p := foP rk rv) (m := 6) (c := 2) (by decide) h28]; rfl)) (by omega) (by omega)
    · refine v_iconst X dX4_formHere_20 (v := nI 1) (by decide) ?_
      exact v_iret X Y dX4_formHere_21 (roI_of (by rw [fst_mv (p := foP rk rv) (n := 6) (m := 1) (by decide) (fun m' hm' => fo_c1 m' hm' h6), fst_hit (p := foP rk rv) (m := 6) (c := 1) (by decide) h17]; rfl)) (by omega) (by omega)
  · refine v_iconst X dX4_formHere_9 (v := nI 0) (by decide) ?_
    exact v_iret X Y dX4_formHere_10 (roI_of (by rw [fst_mv (p := foP rk rv) (n := 6) (m := 0) (by decide) (fun m' hm' => fo_c0 m' hm' ), fst_hit (p := foP rk rv) (m := 6) (c := 0) (by decide) h6]; rfl)) (by omega) (by omega)
