set_option maxRecDepth 100000 in
set_option maxHeartbeats 4000000 in
theorem c_X8_readClauseL (l : Launch) (E : Et) (k : Nat) (th : Nat) (tr : Nat) (wh : Int32) (g : Option Nat) (q : Nat → Nat) (z : Nat → Nat) (nb : Int32) (wa : Int32) (wd : Int64) (ev : Nat) (al : Int32) (wl : Int64) (sz : Nat) (sp : Nat) (so : Nat) (pl : Nat) (tp : Nat → Int32) (tk : Tk) (kwd : Nat → Int64) (gr7 : Nat) (cy : Nat → Nat) (bl : Int32) (kp : Nat) (nc : Nat) (cb : Nat → Nat) (na : Nat → Int64) (ns : Nat → Nat) (nu : Nat → Nat) (nm : Rnm) (gm : Nat → Nat) (gi : Nat → Nat) (gf : Nat → Nat) (go_ : Nat → Nat) (gt_ : Nat → Int32) (hkw : ∀ s, s < 6 → kwd s = lN (pkS 27 s)) (hT8 : T8 tk so pl sp wd nb) (htO : tkO sz tk) (hso : so ≤ 4) (hsz : sz ≤ 900) (hby : byT tp) (hNR : NR nm nc na ns nu) (hnc : nc ≤ 18) (hns : ∀ i, i < nc → ns i ≤ 4) (hs0 : ¬ so = 0) (h5 : cy 5 ≤ 8) (hnu : ∀ i, i < nc → nu i < 8) (hz18 : ¬ cy 5 = 8 → nm.1 < 18) : Ct l E yX8_readClause cX8_readClause 9 none 9 0 0 [.ref k] [ob k 8 [.int (nI th), .int (nI tr), .int wh, va_rf g, .ref gr7, .ref (q 5), .int (nI (z 6)), .int (nI sz), .int (nI sp), .int (nI so), .int (nI pl), .int nb, .int (nI (z 12)), .int wa, .long wd, .ref (q 15), .ref (q 16), .ref (q 17), .ref (q 18), .int (nI (z 19)), .int (nI (z 20)), .ref (q 21), .long (lN ev), .ref (q 23), .ref (q 24), .int (nI (z 25)), .ref (q 26), .int al, .long wl, .int (nI (z 29))], aB E (q 5) 900 tp, ob gr7 7 [.int bl, .int (nI (cy 1)), .int (nI (cy 2)), .int (nI (cy 3)), .int (nI (cy 4)), .int (nI (cy 5)), .int (nI (cy 6)), .int (nI (cy 7)), .int (nI kp), .int (nI nc), .ref (cb 0), .ref (cb 1), .ref (cb 2), .ref (cb 3), .ref (cb 4), .ref (cb 5), .ref (cb 6), .ref (cb 7), .ref (cb 8), .ref (cb 9), .ref (cb 10), .ref (cb 11)], aL E (cb 9) 18 na, aN E (cb 10) 18 ns, aN E (cb 11) 18 nu, aN E (cb 0) 8 gm, aN E (cb 1) 8 gi, aN E (cb 2) 8 gf, aN E (cb 3) 8 go_, aI E (cb 4) 8 gt_] ((fun r w => (∃ (xm : Nat) (xi : Nat) (xf : Nat) (xa : Nat) (xb : Int32) (wf : Int64) (tk1 : Tk) (so1 : Nat) (pl1 : Nat) (sp1 : Nat) (wd1 : Int64) (nb1 : Int32), (¬ cy 5 = 8) ∧ (¬ bl = -1) ∧ (clauseF tp sz kwd (cy 5) nm (advK tp sz tk) = .inr ((nm.1 + 1, vp_updL nm.2.1 nm.1 (advK tp sz tk).2.2.2, upN nm.2.2.1 nm.1 3, upN nm.2.2.2 nm.1 (cy 5)), xm, xi, xf, xa, xb, tk1)) ∧ (T8 tk1 so1 pl1 sp1 wd1 nb1) ∧ (tkO sz tk1) ∧ (so1 ≤ 4) ∧ (∃ so9 pl9 sp9 nb9, T8 (advK tp sz tk) so9 pl9 sp9 wf nb9 ∧ (advK tp sz tk).1 = 1) ∧ w = [ob k 8 [.int (nI th), .int (nI tr), .int wh, va_rf g, .ref gr7, .ref (q 5), .int (nI (z 6)), .int (nI sz), .int (nI sp1), .int (nI so1), .int (nI pl1), .int nb1, .int (nI (z 12)), .int wa, .long wd1, .ref (q 15), .ref (q 16), .ref (q 17), .ref (q 18), .int (nI (z 19)), .int (nI (z 20)), .ref (q 21), .long (lN ev), .ref (q 23), .ref (q 24), .int (nI (z 25)), .ref (q 26), .int al, .long wl, .int (nI (z 29))], aB E (q 5) 900 tp, ob gr7 7 [.int bl, .int (nI (cy 1)), .int (nI (cy 2)), .int (nI (cy 3)), .int (nI (cy 4)), .int (nI (cy 5 + 1)), .int (nI (cy 6)), .int (nI (cy 7)), .int (nI kp), .int (nI (nc + 1)), .ref (cb 0), .ref (cb 1), .ref (cb 2), .ref (cb 3), .ref (cb 4), .ref (cb 5), .ref (cb 6), .ref (cb 7), .ref (cb 8), .ref (cb 9), .ref (cb 10), .ref (cb 11)], aL E (cb 9) 18 (vp_updL na nc wf), aN E (cb 10) 18 (upN ns nc 2), aN E (cb 11) 18 (upN nu nc (cy 5)), aN E (cb 0) 8 (upN gm (cy 5) xm), aN E (cb 1) 8 (upN gi (cy 5) xi), aN E (cb 2) 8 (upN gf (cy 5) xf), aN E (cb 3) 8 (upN go_ (cy 5) xa), aI E (cb 4) 8 (upd gt_ (cy 5) xb)] ∧ r = none) ∨ (∃ (f : Nat) (p : Nat) (pl1 : Nat) (sp1 : Nat) (wd1 : Int64) (nb1 : Int32), ((cy 5 = 8 ∧ f = 5 ∧ p = tk.2.1) ∨ (¬ cy 5 = 8 ∧ bl = -1 ∧ f = 6 ∧ p = tk.2.1) ∨ (¬ cy 5 = 8 ∧ ¬ bl = -1 ∧ clauseF tp sz kwd (cy 5) nm (advK tp sz tk) = .inl (f, p))) ∧ w = [ob k 8 [.int (nI th), .int (nI tr), .int wh, va_rf g, .ref gr7, .ref (q 5), .int (nI (z 6)), .int (nI sz), .int (nI sp1), .int (nI 5), .int (nI pl1), .int nb1, .int (nI f), .int (nI p), .long wd1, .ref (q 15), .ref (q 16), .ref (q 17), .ref (q 18), .int (nI (z 19)), .int (nI (z 20)), .ref (q 21), .long (lN ev), .ref (q 23), .ref (q 24), .int (nI (z 25)), .ref (q 26), .int al, .long wl, .int (nI (z 29))], aB E (q 5) 900 tp, ob gr7 7 [.int bl, .int (nI (cy 1)), .int (nI (cy 2)), .int (nI (cy 3)), .int (nI (cy 4)), .int (nI (cy 5)), .int (nI (cy 6)), .int (nI (cy 7)), .int (nI kp), .int (nI nc), .ref (cb 0), .ref (cb 1), .ref (cb 2), .ref (cb 3), .ref (cb 4), .ref (cb 5), .ref (cb 6), .ref (cb 7), .ref (cb 8), .ref (cb 9), .ref (cb 10), .ref (cb 11)], aL E (cb 9) 18 na, aN E (cb 10) 18 ns, aN E (cb 11) 18 nu, aN E (cb 0) 8 gm, aN E (cb 1) 8 gi, aN E (cb 2) 8 gf, aN E (cb 3) 8 go_, aI E (cb 4) 8 gt_] ∧ r = none))) := by
  refine Ct.intro (by decide +kernel) (Nat.le_of_ble_eq_true rfl) (lv := [(0, .ref k)]) rfl ?_
  intro Z X Y
  refine v_aload_n X dX8_readClause_0 rfl 0 rfl ?_
  refine v_aload_n X dX8_readClause_1 rfl 0 rfl ?_
  refine v_get X kcX8 fl_X8_142 dX8_readClause_2 0 rfl rfl ?_
  refine v_getN X kcX7 fl_X8_240 dX8_readClause_5 2 rfl rfl ?_
  refine v_bipush X dX8_readClause_8 (v := nI 8) (by decide) ?_
  refine v_wr X (rn_V X k_X8_lineBegins ml_X8_217 dX8_readClause_10 (c_X8_lineBeginsL l E k th tr wh g q z nb wa wd ev al wl sz sp so pl tp tk gr7 cy bl kp nc cb (cy 5) 8 (by first | assumption | omega) (by first | assumption | omega) (by first | assumption | omega) (by first | assumption | omega) (by first | assumption | omega) (by first | assumption | omega) (by omega) (by decide)) rfl 0 rfl rfl (by decide) (by decide) (by omega) (by omega) (Nat.le_of_ble_eq_true rfl)) [0, 1, 2] rfl rfl (fun r w1 hpo => ?_)
  rcases hpo with ⟨tk1_10, so1_10, pl1_10, sp1_10, wd1_10, nb1_10, h1_10, h2_10, hA_10, hT_10, hU_10, hS_10, rfl, rfl⟩ | ⟨h1_10, rfl, rfl⟩ | ⟨h1_10, h2_10, rfl, rfl⟩
  · refine ⟨rfl, ?_⟩
    refine V.cast (st' := []) (ws' := [ob k 8 [.int (nI th), .int (nI tr), .int wh, va_rf g, .ref gr7, .ref (q 5), .int (nI (z 6)), .int (nI sz), .int (nI sp1_10), .int (nI so1_10), .int (nI pl1_10), .int nb1_10, .int (nI (z 12)), .int wa, .long wd1_10, .ref (q 15), .ref (q 16), .ref (q 17), .ref (q 18), .int (nI (z 19)), .int (nI (z 20)), .ref (q 21), .long (lN ev), .ref (q 23), .ref (q 24), .int (nI (z 25)), .ref (q 26), .int al, .long wl, .int (nI (z 29))], aB E (q 5) 900 tp, ob gr7 7 [.int bl, .int (nI (cy 1)), .int (nI (cy 2)), .int (nI (cy 3)), .int (nI (cy 4)), .int (nI (cy 5)), .int (nI (cy 6)), .int (nI (cy 7)), .int (nI kp), .int (nI nc), .ref (cb 0), .ref (cb 1), .ref (cb 2), .ref (cb 3), .ref (cb 4), .ref (cb 5), .ref (cb 6), .ref (cb 7), .ref (cb 8), .ref (cb 9), .ref (cb 10), .ref (cb 11)], aL E (cb 9) 18 na, aN E (cb 10) 18 ns, aN E (cb 11) 18 nu, aN E (cb 0) 8 gm, aN E (cb 1) 8 gi, aN E (cb 2) 8 gf, aN E (cb 3) 8 go_, aI E (cb 4) 8 gt_]) rfl rfl rfl ?_
    refine v_aload_n X dX8_readClause_13 rfl 0 rfl ?_
    refine v_wr X (rn_V X k_X8_readFresh ml_X8_221 dX8_readClause_14 (c_X8_readFreshL l E k th tr wh g q z nb1_10 wa wd1_10 ev al wl sz sp1_10 so1_10 pl1_10 tp tk1_10 kwd gr7 cy bl kp nc cb na ns nu nm (by first | assumption | omega) (hT_10) (hU_10) (hS_10) (by first | assumption | omega) (by first | assumption | omega) (by first | assumption | omega) (by first | assumption | omega) (hz18 h1_10)) rfl 0 rfl rfl (by decide) (by decide) (by omega) (by omega) (Nat.le_of_ble_eq_true rfl)) [0, 1, 2, 3] rfl rfl (fun r w1 hpo => ?_)
    rcases hpo with ⟨tk1_14, so1_14, pl1_14, sp1_14, wd1_14, nb1_14, hW_14, hT_14, hU_14, hS_14, hk1_14, rfl, rfl⟩ | ⟨f_14, p_14, hW_14, rfl, rfl⟩
    · refine ⟨rfl, ?_⟩
      refine V.cast (st' := [.long wd1_10]) (ws' := [ob k 8 [.int (nI th), .int (nI tr), .int wh, va_rf g, .ref gr7, .ref (q 5), .int (nI (z 6)), .int (nI sz), .int (nI sp1_14), .int (nI so1_14), .int (nI pl1_14), .int nb1_14, .int (nI (z 12)), .int wa, .long wd1_14, .ref (q 15), .ref (q 16), .ref (q 17), .ref (q 18), .int (nI (z 19)), .int (nI (z 20)), .ref (q 21), .long (lN ev), .ref (q 23), .ref (q 24), .int (nI (z 25)), .ref (q 26), .int al, .long wl, .int (nI (z 29))], aB E (q 5) 900 tp, ob gr7 7 [.int bl, .int (nI (cy 1)), .int (nI (cy 2)), .int (nI (cy 3)), .int (nI (cy 4)), .int (nI (cy 5)), .int (nI (cy 6)), .int (nI (cy 7)), .int (nI kp), .int (nI nc), .ref (cb 0), .ref (cb 1), .ref (cb 2), .ref (cb 3), .ref (cb 4), .ref (cb 5), .ref (cb 6), .ref (cb 7), .ref (cb 8), .ref (cb 9), .ref (cb 10), .ref (cb 11)], aL E (cb 9) 18 na, aN E (cb 10) 18 ns, aN E (cb 11) 18 nu, aN E (cb 0) 8 gm, aN E (cb 1) 8 gi, aN E (cb 2) 8 gf, aN E (cb 3) 8 go_, aI E (cb 4) 8 gt_]) rfl rfl rfl ?_
      refine v_lstore_n X dX8_readClause_17 rfl (by decide) (lv' := [(1, .long wd1_10), (0, .ref k)]) rfl ?_
      refine v_aload_n X dX8_readClause_18 rfl 1 rfl ?_
      refine v_ldcS X dX8_readClause_19 (i := 9) (tx := "on") (by decide) ?_
      refine v_wr X (rn_V X k_X8_needs ml_X8_122 dX8_readClause_21 (c_X8_needsL l E k th tr wh g (some gr7) q z nb1_14 wa wd1_14 ev al wl sz sp1_14 so1_14 pl1_14 tp tk1_14 9 (by decide) (hT_14) (hU_14) (hS_14) (by first | assumption | omega) (by first | assumption | omega)) rfl 0 rfl rfl (by decide) (by decide) (by omega) (by omega) (Nat.le_of_ble_eq_true rfl)) [0, 1] rfl rfl (fun r w1 hpo => ?_)
      rcases hpo with ⟨tk1_21, so1_21, pl1_21, sp1_21, wd1_21, nb1_21, hW_21, hT_21, hU_21, hS_21, rfl, rfl⟩ | ⟨p_21, hW_21, rfl, rfl⟩
      · refine ⟨rfl, ?_⟩
        refine V.cast (st' := []) (ws' := [ob k 8 [.int (nI th), .int (nI tr), .int wh, va_rf g, .ref gr7, .ref (q 5), .int (nI (z 6)), .int (nI sz), .int (nI sp1_21), .int (nI so1_21), .int (nI pl1_21), .int nb1_21, .int (nI (z 12)), .int wa, .long wd1_21, .ref (q 15), .ref (q 16), .ref (q 17), .ref (q 18), .int (nI (z 19)), .int (nI (z 20)), .ref (q 21), .long (lN ev), .ref (q 23), .ref (q 24), .int (nI (z 25)), .ref (q 26), .int al, .long wl, .int (nI (z 29))], aB E (q 5) 900 tp, ob gr7 7 [.int bl, .int (nI (cy 1)), .int (nI (cy 2)), .int (nI (cy 3)), .int (nI (cy 4)), .int (nI (cy 5)), .int (nI (cy 6)), .int (nI (cy 7)), .int (nI kp), .int (nI nc), .ref (cb 0), .ref (cb 1), .ref (cb 2), .ref (cb 3), .ref (cb 4), .ref (cb 5), .ref (cb 6), .ref (cb 7), .ref (cb 8), .ref (cb 9), .ref (cb 10), .ref (cb 11)], aL E (cb 9) 18 na, aN E (cb 10) 18 ns, aN E (cb 11) 18 nu, aN E (cb 0) 8 gm, aN E (cb 1) 8 gi, aN E (cb 2) 8 gf, aN E (cb 3) 8 go_, aI E (cb 4) 8 gt_]) rfl rfl rfl ?_
        refine v_aload_n X dX8_readClause_24 rfl 1 rfl ?_
        refine v_iconst X dX8_readClause_25 (v := nI 0) (by decide) ?_
        refine v_wr X (rn_V X k_X8_readKnown ml_X8_245 dX8_readClause_26 (c_X8_readKnownL l E k th tr wh g q z nb1_21 wa wd1_21 ev al wl sz sp1_21 so1_21 pl1_21 tp tk1_21 kwd gr7 cy bl kp nc cb na ns nu nm 0 (by first | assumption | omega) (hT_21) (hU_21) (hS_21) (by first | assumption | omega) (by first | assumption | omega) (by first | assumption | omega) (by first | assumption | omega) (by first | assumption | omega) (by decide)) rfl 0 rfl rfl (by decide) (by decide) (by omega) (by omega) (Nat.le_of_ble_eq_true rfl)) [0, 1, 2, 3, 4, 5] rfl rfl (fun r w1 hpo => ?_)
        rcases hpo with ⟨x_26, tk1_26, so1_26, pl1_26, sp1_26, wd1_26, nb1_26, hW_26, hT_26, hU_26, hS_26, rfl, rfl⟩ | ⟨f_26, p_26, hW_26, rfl, rfl⟩
        · refine ⟨rfl, ?_⟩
          refine V.cast (st' := [.int (nI x_26)]) (ws' := [ob k 8 [.int (nI th), .int (nI tr), .int wh, va_rf g, .ref gr7, .ref (q 5), .int (nI (z 6)), .int (nI sz), .int (nI sp1_26), .int (nI so1_26), .int (nI pl1_26), .int nb1_26, .int (nI (z 12)), .int wa, .long wd1_26, .ref (q 15), .ref (q 16), .ref (q 17), .ref (q 18), .int (nI (z 19)), .int (nI (z 20)), .ref (q 21), .long (lN ev), .ref (q 23), .ref (q 24), .int (nI (z 25)), .ref (q 26), .int al, .long wl, .int (nI (z 29))], aB E (q 5) 900 tp, ob gr7 7 [.int bl, .int (nI (cy 1)), .int (nI (cy 2)), .int (nI (cy 3)), .int (nI (cy 4)), .int (nI (cy 5)), .int (nI (cy 6)), .int (nI (cy 7)), .int (nI kp), .int (nI nc), .ref (cb 0), .ref (cb 1), .ref (cb 2), .ref (cb 3), .ref (cb 4), .ref (cb 5), .ref (cb 6), .ref (cb 7), .ref (cb 8), .ref (cb 9), .ref (cb 10), .ref (cb 11)], aL E (cb 9) 18 na, aN E (cb 10) 18 ns, aN E (cb 11) 18 nu, aN E (cb 0) 8 gm, aN E (cb 1) 8 gi, aN E (cb 2) 8 gf, aN E (cb 3) 8 go_, aI E (cb 4) 8 gt_]) rfl rfl rfl ?_
          refine v_istore_n X dX8_readClause_29 rfl (by decide) (lv' := [(3, .int (nI x_26)), (1, .long wd1_10), (0, .ref k)]) rfl ?_
          refine v_aload_n X dX8_readClause_30 rfl 2 rfl ?_
          refine v_ldcS X dX8_readClause_31 (i := 10) (tx := "ink") (by decide) ?_
          refine v_iconst X dX8_readClause_33 (v := nI 1) (by decide) ?_
          refine v_bipush X dX8_readClause_34 (v := nI 40) (by decide) ?_
          refine v_wr X (rn_V X k_X8_readPart ml_X8_205 dX8_readClause_36 (c_X8_readPartL l E k th tr wh g (some gr7) q z nb1_26 wa wd1_26 ev al wl sz sp1_26 so1_26 pl1_26 tp tk1_26 10 1 40 (by decide) (hT_26) (hU_26) (hS_26) (by first | assumption | omega) (by first | assumption | omega) (by decide) (by decide)) rfl 0 rfl rfl (by decide) (by decide) (by omega) (by omega) (Nat.le_of_ble_eq_true rfl)) [0, 1] rfl rfl (fun r w1 hpo => ?_)
          rcases hpo with ⟨x_36, tk1_36, so1_36, pl1_36, sp1_36, wd1_36, nb1_36, hW_36, hT_36, hU_36, hS_36, hx1_36, hx2_36, rfl, rfl⟩ | ⟨f_36, p_36, pl1_36, sp1_36, wd1_36, nb1_36, hW_36, rfl, rfl⟩
          · refine ⟨rfl, ?_⟩
            refine V.cast (st' := [.int (nI x_36)]) (ws' := [ob k 8 [.int (nI th), .int (nI tr), .int wh, va_rf g, .ref gr7, .ref (q 5), .int (nI (z 6)), .int (nI sz), .int (nI sp1_36), .int (nI so1_36), .int (nI pl1_36), .int nb1_36, .int (nI (z 12)), .int wa, .long wd1_36, .ref (q 15), .ref (q 16), .ref (q 17), .ref (q 18), .int (nI (z 19)), .int (nI (z 20)), .ref (q 21), .long (lN ev), .ref (q 23), .ref (q 24), .int (nI (z 25)), .ref (q 26), .int al, .long wl, .int (nI (z 29))], aB E (q 5) 900 tp, ob gr7 7 [.int bl, .int (nI (cy 1)), .int (nI (cy 2)), .int (nI (cy 3)), .int (nI (cy 4)), .int (nI (cy 5)), .int (nI (cy 6)), .int (nI (cy 7)), .int (nI kp), .int (nI nc), .ref (cb 0), .ref (cb 1), .ref (cb 2), .ref (cb 3), .ref (cb 4), .ref (cb 5), .ref (cb 6), .ref (cb 7), .ref (cb 8), .ref (cb 9), .ref (cb 10), .ref (cb 11)], aL E (cb 9) 18 na, aN E (cb 10) 18 ns, aN E (cb 11) 18 nu, aN E (cb 0) 8 gm, aN E (cb 1) 8 gi, aN E (cb 2) 8 gf, aN E (cb 3) 8 go_, aI E (cb 4) 8 gt_]) rfl rfl rfl ?_
            refine v_istore X dX8_readClause_39 (by decide) (lv' := [(4, .int (nI x_36)), (3, .int (nI x_26)), (1, .long wd1_10), (0, .ref k)]) rfl ?_
            refine v_aload_n X dX8_readClause_41 rfl 3 rfl ?_
            refine v_roI1 X (rn_V X k_X8_formAtHand ml_X8_250 dX8_readClause_42 (c_X8_formAtHandL l E k th tr wh g (some gr7) q z nb1_36 wa wd1_36 ev al wl sz sp1_36 so1_36 pl1_36 tp tk1_36 (hT_36) (hS_36)) rfl 0 rfl rfl (by decide) (by decide) (by omega) (by omega) (Nat.le_of_ble_eq_true rfl)) [0] rfl rfl ?_
            refine v_istore X dX8_readClause_45 (by decide) (lv' := [(5, .int (optJ (fst_ (foP tk1_36.1 tk1_36.2.2.2) 6 0))), (4, .int (nI x_36)), (3, .int (nI x_26)), (1, .long wd1_10), (0, .ref k)]) rfl ?_
            rcases hF : fst_ (foP tk1_36.1 tk1_36.2.2.2) 6 0 with _ | qx
            · refine V.cast (lv' := [(5, .int (-1)), (4, .int (nI x_36)), (3, .int (nI x_26)), (1, .long wd1_10), (0, .ref k)]) rfl rfl rfl ?_
              refine v_iload X dX8_readClause_47 0 rfl ?_
              refine v_iconst X dX8_readClause_49 (v := (-1)) (by decide) ?_
              refine v_icmp_ne X dX8_readClause_50 (tgt := 58) (by decide) (fun h50 => ?_) (fun h50 => ?_)
              · exact absurd rfl h50
              · refine v_aload_n X dX8_readClause_53 rfl 4 rfl ?_
                refine v_iconst X dX8_readClause_54 (v := nI 1) (by decide) ?_
                refine v_wrV1 X (rn_V X k_X8_flaw ml_X8_118 dX8_readClause_55 (c_X8_flaw l E k th tr wh g (some gr7) q (upN (upN z 7 sz) 8 sp1_36) nb1_36 wa wd1_36 ev al wl so1_36 pl1_36 1 (hS_36)) rfl 0 rfl rfl (by decide) (by decide) (by omega) (by omega) (Nat.le_of_ble_eq_true rfl)) [0] rfl rfl (ws' := [ob k 8 [.int (nI th), .int (nI tr), .int wh, va_rf g, .ref gr7, .ref (q 5), .int (nI (z 6)), .int (nI sz), .int (nI sp1_36), .int (nI 5), .int (nI pl1_36), .int nb1_36, .int (nI 1), .int (nI pl1_36), .long wd1_36, .ref (q 15), .ref (q 16), .ref (q 17), .ref (q 18), .int (nI (z 19)), .int (nI (z 20)), .ref (q 21), .long (lN ev), .ref (q 23), .ref (q 24), .int (nI (z 25)), .ref (q 26), .int al, .long wl, .int (nI (z 29))], aB E (q 5) 900 tp, ob gr7 7 [.int bl, .int (nI (cy 1)), .int (nI (cy 2)), .int (nI (cy 3)), .int (nI (cy 4)), .int (nI (cy 5)), .int (nI (cy 6)), .int (nI (cy 7)), .int (nI kp), .int (nI nc), .ref (cb 0), .ref (cb 1), .ref (cb 2), .ref (cb 3), .ref (cb 4), .ref (cb 5), .ref (cb 6), .ref (cb 7), .ref (cb 8), .ref (cb 9), .ref (cb 10), .ref (cb 11)], aL E (cb 9) 18 na, aN E (cb 10) 18 ns, aN E (cb 11) 18 nu, aN E (cb 0) 8 gm, aN E (cb 1) 8 gi, aN E (cb 2) 8 gf, aN E (cb 3) 8 go_, aI E (cb 4) 8 gt_]) rfl rfl ?_
                refine v_aload_n X dX8_readClause_58 rfl 4 rfl ?_
                refine v_roV1 X (rn_V X k_X8_goesOn ml_X8_111 dX8_readClause_59 (c_X8_goesOn_o l E k th tr wh g (some gr7) q (upN (upN (upN (upN z 7 sz) 8 sp1_36) 10 pl1_36) 12 1) nb1_36 (nI pl1_36) wd1_36 ev al wl ) rfl 0 rfl rfl (by decide) (by decide) (by omega) (by omega) (Nat.le_of_ble_eq_true rfl)) [0] rfl rfl ?_
                refine v_aload_n X dX8_readClause_62 rfl 4 rfl ?_
                refine v_iconst X dX8_readClause_63 (v := nI 1) (by decide) ?_
                refine v_roI1 X (rn_V X k_X8_readKnown ml_X8_245 dX8_readClause_64 (c_X8_readKnown_o l E k th tr wh g q (upN (upN (upN (upN z 7 sz) 8 sp1_36) 10 pl1_36) 12 1) nb1_36 (nI pl1_36) wd1_36 ev al wl gr7 cy bl kp nc cb na ns nu 1 (by first | assumption | omega) (by first | assumption | omega) (by decide)) rfl 0 rfl rfl (by decide) (by decide) (by omega) (by omega) (Nat.le_of_ble_eq_true rfl)) [0, 2, 3, 4, 5] rfl rfl ?_
                refine v_istore X dX8_readClause_67 (by decide) (lv' := [(6, .int (nI 0)), (5, .int (-1)), (4, .int (nI x_36)), (3, .int (nI x_26)), (1, .long wd1_10), (0, .ref k)]) rfl ?_
                refine v_bipush X dX8_readClause_69 (v := (-2)) (by decide) ?_
                refine v_istore X dX8_readClause_71 (by decide) (lv' := [(7, .int (-2)), (6, .int (nI 0)), (5, .int (-1)), (4, .int (nI x_36)), (3, .int (nI x_26)), (1, .long wd1_10), (0, .ref k)]) rfl ?_
                refine v_iload X dX8_readClause_73 2 rfl ?_
                refine v_iconst X dX8_readClause_75 (v := nI 1) (by decide) ?_
                refine v_icmp_le X dX8_readClause_76 (tgt := 110) (by decide) (fun h76 => ?_) (fun h76 => ?_)
                · refine v_aload_n X dX8_readClause_110 rfl 6 rfl ?_
                  refine v_get X kcX8 fl_X8_75 dX8_readClause_111 0 rfl rfl ?_
                  refine v_iconst X dX8_readClause_114 (v := nI 5) (by decide) ?_
                  refine v_icmpN_ne X dX8_readClause_115 (tgt := 119) (by decide) (by decide) (by decide) (fun h115 => ?_) (fun h115 => ?_)
                  · exfalso; omega
                  · exact v_vret X Y dX8_readClause_118 (Or.inr ⟨1, pl1_36, pl1_36, sp1_36, wd1_36, nb1_36, (Or.inr (Or.inr ⟨h1_10, h2_10, by rw [hA_10, clause_e, hW_14 3 (cy 5), sb_k, hW_21, sb_k, show pnS tp sz kwd 1 0 (nm.1 + 1, vp_updL nm.2.1 nm.1 tk1_10.2.2.2, upN nm.2.2.1 nm.1 3, upN nm.2.2.2 nm.1 (cy 5)) tk1_21 = _ from (pn_new (by decide)).trans hW_26, sb_k, hW_36, sb_k, fo_no hF, sb_e]; exact congrArg (fun z => (Sum.inl (1, z) : Rx _)) hT_36.1.symm⟩)), rfl, rfl⟩) (by omega) (by omega)
                · exact absurd (by decide) h76
            · have hqx : qx < 6 := by have := (fst_lt _ _ _ hF).1; omega
              have hspe : sp1_36 = tk1_36.2.2.1 := t8_sp hT_36 (fun z => by have := (t8_2 hT_36).mpr (of_decide_eq_true (fst_lt _ _ _ hF).2).1; omega)
              refine V.cast (lv' := [(5, .int (nI qx)), (4, .int (nI x_36)), (3, .int (nI x_26)), (1, .long wd1_10), (0, .ref k)]) rfl rfl rfl ?_
              refine v_iload X dX8_readClause_47 0 rfl ?_
              refine v_iconst X dX8_readClause_49 (v := (-1)) (by decide) ?_
              refine v_icmp_ne X dX8_readClause_50 (tgt := 58) (by decide) (fun h50 => ?_) (fun h50 => ?_)
              · refine v_aload_n X dX8_readClause_58 rfl 4 rfl ?_
                refine v_wr X (rn_V X k_X8_goesOn ml_X8_111 dX8_readClause_59 (c_X8_goesOnL l E k th tr wh g (some gr7) q z nb1_36 wa wd1_36 ev al wl sz sp1_36 so1_36 pl1_36 tp tk1_36.2.2.2 (hS_36) (by first | assumption | omega) (by rw [hspe]; exact hU_36.2.2.1) (by first | assumption | omega)) rfl 0 rfl rfl (by decide) (by decide) (by omega) (by omega) (Nat.le_of_ble_eq_true rfl)) [0, 1] rfl rfl (fun r w1 hpo => ?_)
                rcases hpo with ⟨so1_59, pl1_59, sp1_59, wd1_59, nb1_59, hT8_59, hs1_59, hs4_59, rfl, rfl⟩
                · refine ⟨rfl, ?_⟩
                  refine V.cast (st' := []) (ws' := [ob k 8 [.int (nI th), .int (nI tr), .int wh, va_rf g, .ref gr7, .ref (q 5), .int (nI (z 6)), .int (nI sz), .int (nI sp1_59), .int (nI so1_59), .int (nI pl1_59), .int nb1_59, .int (nI (z 12)), .int wa, .long wd1_59, .ref (q 15), .ref (q 16), .ref (q 17), .ref (q 18), .int (nI (z 19)), .int (nI (z 20)), .ref (q 21), .long (lN ev), .ref (q 23), .ref (q 24), .int (nI (z 25)), .ref (q 26), .int al, .long wl, .int (nI (z 29))], aB E (q 5) 900 tp, ob gr7 7 [.int bl, .int (nI (cy 1)), .int (nI (cy 2)), .int (nI (cy 3)), .int (nI (cy 4)), .int (nI (cy 5)), .int (nI (cy 6)), .int (nI (cy 7)), .int (nI kp), .int (nI nc), .ref (cb 0), .ref (cb 1), .ref (cb 2), .ref (cb 3), .ref (cb 4), .ref (cb 5), .ref (cb 6), .ref (cb 7), .ref (cb 8), .ref (cb 9), .ref (cb 10), .ref (cb 11)], aL E (cb 9) 18 na, aN E (cb 10) 18 ns, aN E (cb 11) 18 nu, aN E (cb 0) 8 gm, aN E (cb 1) 8 gi, aN E (cb 2) 8 gf, aN E (cb 3) 8 go_, aI E (cb 4) 8 gt_]) rfl rfl rfl ?_
                  have hTg : T8 (advK tp sz tk1_36) so1_59 pl1_59 sp1_59 wd1_59 nb1_59 := by have h9 := hT8_59; rw [hspe] at h9; exact h9
                  refine v_aload_n X dX8_readClause_62 rfl 4 rfl ?_
                  refine v_iconst X dX8_readClause_63 (v := nI 1) (by decide) ?_
                  refine v_wr X (rn_V X k_X8_readKnown ml_X8_245 dX8_readClause_64 (c_X8_readKnownL l E k th tr wh g q z nb1_59 wa wd1_59 ev al wl sz sp1_59 so1_59 pl1_59 tp (advK tp sz tk1_36) kwd gr7 cy bl kp nc cb na ns nu nm 1 (by first | assumption | omega) (hTg) ((advK_ok hU_36).1) (hs4_59) (by first | assumption | omega) (by first | assumption | omega) (by first | assumption | omega) (by first | assumption | omega) (by first | assumption | omega) (by decide)) rfl 0 rfl rfl (by decide) (by decide) (by omega) (by omega) (Nat.le_of_ble_eq_true rfl)) [0, 1, 2, 3, 4, 5] rfl rfl (fun r w1 hpo => ?_)
                  rcases hpo with ⟨x_64, tk1_64, so1_64, pl1_64, sp1_64, wd1_64, nb1_64, hW_64, hT_64, hU_64, hS_64, rfl, rfl⟩ | ⟨f_64, p_64, hW_64, rfl, rfl⟩
                  · refine ⟨rfl, ?_⟩
                    refine V.cast (st' := [.int (nI x_64)]) (ws' := [ob k 8 [.int (nI th), .int (nI tr), .int wh, va_rf g, .ref gr7, .ref (q 5), .int (nI (z 6)), .int (nI sz), .int (nI sp1_64), .int (nI so1_64), .int (nI pl1_64), .int nb1_64, .int (nI (z 12)), .int wa, .long wd1_64, .ref (q 15), .ref (q 16), .ref (q 17), .ref (q 18), .int (nI (z 19)), .int (nI (z 20)), .ref (q 21), .long (lN ev), .ref (q 23), .ref (q 24), .int (nI (z 25)), .ref (q 26), .int al, .long wl, .int (nI (z 29))], aB E (q 5) 900 tp, ob gr7 7 [.int bl, .int (nI (cy 1)), .int (nI (cy 2)), .int (nI (cy 3)), .int (nI (cy 4)), .int (nI (cy 5)), .int (nI (cy 6)), .int (nI (cy 7)), .int (nI kp), .int (nI nc), .ref (cb 0), .ref (cb 1), .ref (cb 2), .ref (cb 3), .ref (cb 4), .ref (cb 5), .ref (cb 6), .ref (cb 7), .ref (cb 8), .ref (cb 9), .ref (cb 10), .ref (cb 11)], aL E (cb 9) 18 na, aN E (cb 10) 18 ns, aN E (cb 11) 18 nu, aN E (cb 0) 8 gm, aN E (cb 1) 8 gi, aN E (cb 2) 8 gf, aN E (cb 3) 8 go_, aI E (cb 4) 8 gt_]) rfl rfl rfl ?_
                    have hx64 : x_64 < 8 := by obtain ⟨⟨q9, a1, a2, a3⟩, -, -⟩ := pn_mem hW_64; rw [← a3, ← (hNR.2 q9 a1).2.1]; exact hnu q9 (by rw [hNR.1]; exact a1)
                    refine v_istore X dX8_readClause_67 (by decide) (lv' := [(6, .int (nI x_64)), (5, .int (nI qx)), (4, .int (nI x_36)), (3, .int (nI x_26)), (1, .long wd1_10), (0, .ref k)]) rfl ?_
                    refine v_bipush X dX8_readClause_69 (v := (-2)) (by decide) ?_
                    refine v_istore X dX8_readClause_71 (by decide) (lv' := [(7, .int (-2)), (6, .int (nI x_64)), (5, .int (nI qx)), (4, .int (nI x_36)), (3, .int (nI x_26)), (1, .long wd1_10), (0, .ref k)]) rfl ?_
                    refine v_iload X dX8_readClause_73 2 rfl ?_
                    refine v_iconst X dX8_readClause_75 (v := nI 1) (by decide) ?_
                    refine v_icmpN_le X dX8_readClause_76 (tgt := 110) (by decide) (by omega) (by decide) (fun h76 => ?_) (fun h76 => ?_)
                    · refine v_aload_n X dX8_readClause_110 rfl 6 rfl ?_
                      refine v_get X kcX8 fl_X8_75 dX8_readClause_111 0 rfl rfl ?_
                      refine v_iconst X dX8_readClause_114 (v := nI 5) (by decide) ?_
                      refine v_icmpN_ne X dX8_readClause_115 (tgt := 119) (by decide) (by omega) (by decide) (fun h115 => ?_) (fun h115 => ?_)
                      · refine v_aload_n X dX8_readClause_119 rfl 6 rfl ?_
                        refine v_get X kcX8 fl_X8_142 dX8_readClause_120 0 rfl rfl ?_
                        refine v_getN X kcX7 fl_X8_240 dX8_readClause_123 2 rfl rfl ?_
                        refine v_istore X dX8_readClause_126 (by decide) (lv' := [(8, .int (nI (cy 5))), (7, .int (-2)), (6, .int (nI x_64)), (5, .int (nI qx)), (4, .int (nI x_36)), (3, .int (nI x_26)), (1, .long wd1_10), (0, .ref k)]) rfl ?_
                        refine v_aload_n X dX8_readClause_128 rfl 7 rfl ?_
                        refine v_lload_n X dX8_readClause_129 rfl 6 rfl ?_
                        refine v_iconst X dX8_readClause_130 (v := nI 2) (by decide) ?_
                        refine v_iload X dX8_readClause_131 0 rfl ?_
                        refine v_wrV1 X (rn_V X k_X8_names ml_X8_225 dX8_readClause_133 (c_X8_names l E k th tr wh g q (upN (upN (upN (upN z 7 sz) 8 sp1_64) 9 so1_64) 10 pl1_64) nb1_64 wa wd1_64 ev al wl gr7 cy bl kp nc cb na ns nu wd1_10 2 (cy 5) (by have := hNR.1; have := hz18 h1_10; omega)) rfl 0 rfl rfl (by decide) (by decide) (by omega) (by omega) (Nat.le_of_ble_eq_true rfl)) [0, 2, 3, 4, 5] rfl rfl (ws' := [ob k 8 [.int (nI th), .int (nI tr), .int wh, va_rf g, .ref gr7, .ref (q 5), .int (nI (z 6)), .int (nI sz), .int (nI sp1_64), .int (nI so1_64), .int (nI pl1_64), .int nb1_64, .int (nI (z 12)), .int wa, .long wd1_64, .ref (q 15), .ref (q 16), .ref (q 17), .ref (q 18), .int (nI (z 19)), .int (nI (z 20)), .ref (q 21), .long (lN ev), .ref (q 23), .ref (q 24), .int (nI (z 25)), .ref (q 26), .int al, .long wl, .int (nI (z 29))], aB E (q 5) 900 tp, ob gr7 7 [.int bl, .int (nI (cy 1)), .int (nI (cy 2)), .int (nI (cy 3)), .int (nI (cy 4)), .int (nI (cy 5)), .int (nI (cy 6)), .int (nI (cy 7)), .int (nI kp), .int (nI (nc + 1)), .ref (cb 0), .ref (cb 1), .ref (cb 2), .ref (cb 3), .ref (cb 4), .ref (cb 5), .ref (cb 6), .ref (cb 7), .ref (cb 8), .ref (cb 9), .ref (cb 10), .ref (cb 11)], aL E (cb 9) 18 (vp_updL na nc wd1_10), aN E (cb 10) 18 (upN ns nc 2), aN E (cb 11) 18 (upN nu nc (cy 5)), aN E (cb 0) 8 gm, aN E (cb 1) 8 gi, aN E (cb 2) 8 gf, aN E (cb 3) 8 go_, aI E (cb 4) 8 gt_]) rfl rfl ?_
                        refine v_aload_n X dX8_readClause_136 rfl 7 rfl ?_
                        refine v_get X kcX8 fl_X8_142 dX8_readClause_137 0 rfl rfl ?_
                        refine v_getN X kcX7 fl_X8_253 dX8_readClause_140 2 rfl rfl ?_
                        refine v_iload X dX8_readClause_143 0 rfl ?_
                        refine v_iload_n X dX8_readClause_145 rfl 5 rfl ?_
                        refine v_iast X dX8_readClause_146 6 rfl (by omega) (by decide) (ws' := [ob k 8 [.int (nI th), .int (nI tr), .int wh, va_rf g, .ref gr7, .ref (q 5), .int (nI (z 6)), .int (nI sz), .int (nI sp1_64), .int (nI so1_64), .int (nI pl1_64), .int nb1_64, .int (nI (z 12)), .int wa, .long wd1_64, .ref (q 15), .ref (q 16), .ref (q 17), .ref (q 18), .int (nI (z 19)), .int (nI (z 20)), .ref (q 21), .long (lN ev), .ref (q 23), .ref (q 24), .int (nI (z 25)), .ref (q 26), .int al, .long wl, .int (nI (z 29))], aB E (q 5) 900 tp, ob gr7 7 [.int bl, .int (nI (cy 1)), .int (nI (cy 2)), .int (nI (cy 3)), .int (nI (cy 4)), .int (nI (cy 5)), .int (nI (cy 6)), .int (nI (cy 7)), .int (nI kp), .int (nI (nc + 1)), .ref (cb 0), .ref (cb 1), .ref (cb 2), .ref (cb 3), .ref (cb 4), .ref (cb 5), .ref (cb 6), .ref (cb 7), .ref (cb 8), .ref (cb 9), .ref (cb 10), .ref (cb 11)], aL E (cb 9) 18 (vp_updL na nc wd1_10), aN E (cb 10) 18 (upN ns nc 2), aN E (cb 11) 18 (upN nu nc (cy 5)), aN E (cb 0) 8 (upN gm (cy 5) x_26), aN E (cb 1) 8 gi, aN E (cb 2) 8 gf, aN E (cb 3) 8 go_, aI E (cb 4) 8 gt_]) (by rw [upd_nI]; rfl) ?_
                        refine v_aload_n X dX8_readClause_147 rfl 7 rfl ?_
                        refine v_get X kcX8 fl_X8_142 dX8_readClause_148 0 rfl rfl ?_
                        refine v_getN X kcX7 fl_X8_255 dX8_readClause_151 2 rfl rfl ?_
                        refine v_iload X dX8_readClause_154 0 rfl ?_
                        refine v_iload X dX8_readClause_156 4 rfl ?_
                        refine v_iast X dX8_readClause_158 7 rfl (by omega) (by decide) (ws' := [ob k 8 [.int (nI th), .int (nI tr), .int wh, va_rf g, .ref gr7, .ref (q 5), .int (nI (z 6)), .int (nI sz), .int (nI sp1_64), .int (nI so1_64), .int (nI pl1_64), .int nb1_64, .int (nI (z 12)), .int wa, .long wd1_64, .ref (q 15), .ref (q 16), .ref (q 17), .ref (q 18), .int (nI (z 19)), .int (nI (z 20)), .ref (q 21), .long (lN ev), .ref (q 23), .ref (q 24), .int (nI (z 25)), .ref (q 26), .int al, .long wl, .int (nI (z 29))], aB E (q 5) 900 tp, ob gr7 7 [.int bl, .int (nI (cy 1)), .int (nI (cy 2)), .int (nI (cy 3)), .int (nI (cy 4)), .int (nI (cy 5)), .int (nI (cy 6)), .int (nI (cy 7)), .int (nI kp), .int (nI (nc + 1)), .ref (cb 0), .ref (cb 1), .ref (cb 2), .ref (cb 3), .ref (cb 4), .ref (cb 5), .ref (cb 6), .ref (cb 7), .ref (cb 8), .ref (cb 9), .ref (cb 10), .ref (cb 11)], aL E (cb 9) 18 (vp_updL na nc wd1_10), aN E (cb 10) 18 (upN ns nc 2), aN E (cb 11) 18 (upN nu nc (cy 5)), aN E (cb 0) 8 (upN gm (cy 5) x_26), aN E (cb 1) 8 (upN gi (cy 5) x_36), aN E (cb 2) 8 gf, aN E (cb 3) 8 go_, aI E (cb 4) 8 gt_]) (by rw [upd_nI]; rfl) ?_
                        refine v_aload_n X dX8_readClause_159 rfl 7 rfl ?_
                        refine v_get X kcX8 fl_X8_142 dX8_readClause_160 0 rfl rfl ?_
                        refine v_getN X kcX7 fl_X8_257 dX8_readClause_163 2 rfl rfl ?_
                        refine v_iload X dX8_readClause_166 0 rfl ?_
                        refine v_iload X dX8_readClause_168 3 rfl ?_
                        refine v_iast X dX8_readClause_170 8 rfl (by omega) (by decide) (ws' := [ob k 8 [.int (nI th), .int (nI tr), .int wh, va_rf g, .ref gr7, .ref (q 5), .int (nI (z 6)), .int (nI sz), .int (nI sp1_64), .int (nI so1_64), .int (nI pl1_64), .int nb1_64, .int (nI (z 12)), .int wa, .long wd1_64, .ref (q 15), .ref (q 16), .ref (q 17), .ref (q 18), .int (nI (z 19)), .int (nI (z 20)), .ref (q 21), .long (lN ev), .ref (q 23), .ref (q 24), .int (nI (z 25)), .ref (q 26), .int al, .long wl, .int (nI (z 29))], aB E (q 5) 900 tp, ob gr7 7 [.int bl, .int (nI (cy 1)), .int (nI (cy 2)), .int (nI (cy 3)), .int (nI (cy 4)), .int (nI (cy 5)), .int (nI (cy 6)), .int (nI (cy 7)), .int (nI kp), .int (nI (nc + 1)), .ref (cb 0), .ref (cb 1), .ref (cb 2), .ref (cb 3), .ref (cb 4), .ref (cb 5), .ref (cb 6), .ref (cb 7), .ref (cb 8), .ref (cb 9), .ref (cb 10), .ref (cb 11)], aL E (cb 9) 18 (vp_updL na nc wd1_10), aN E (cb 10) 18 (upN ns nc 2), aN E (cb 11) 18 (upN nu nc (cy 5)), aN E (cb 0) 8 (upN gm (cy 5) x_26), aN E (cb 1) 8 (upN gi (cy 5) x_36), aN E (cb 2) 8 (upN gf (cy 5) qx), aN E (cb 3) 8 go_, aI E (cb 4) 8 gt_]) (by rw [upd_nI]; rfl) ?_
                        refine v_aload_n X dX8_readClause_171 rfl 7 rfl ?_
                        refine v_get X kcX8 fl_X8_142 dX8_readClause_172 0 rfl rfl ?_
                        refine v_getN X kcX7 fl_X8_260 dX8_readClause_175 2 rfl rfl ?_
                        refine v_iload X dX8_readClause_178 0 rfl ?_
                        refine v_iload X dX8_readClause_180 2 rfl ?_
                        refine v_iast X dX8_readClause_182 9 rfl (by omega) (by decide) (ws' := [ob k 8 [.int (nI th), .int (nI tr), .int wh, va_rf g, .ref gr7, .ref (q 5), .int (nI (z 6)), .int (nI sz), .int (nI sp1_64), .int (nI so1_64), .int (nI pl1_64), .int nb1_64, .int (nI (z 12)), .int wa, .long wd1_64, .ref (q 15), .ref (q 16), .ref (q 17), .ref (q 18), .int (nI (z 19)), .int (nI (z 20)), .ref (q 21), .long (lN ev), .ref (q 23), .ref (q 24), .int (nI (z 25)), .ref (q 26), .int al, .long wl, .int (nI (z 29))], aB E (q 5) 900 tp, ob gr7 7 [.int bl, .int (nI (cy 1)), .int (nI (cy 2)), .int (nI (cy 3)), .int (nI (cy 4)), .int (nI (cy 5)), .int (nI (cy 6)), .int (nI (cy 7)), .int (nI kp), .int (nI (nc + 1)), .ref (cb 0), .ref (cb 1), .ref (cb 2), .ref (cb 3), .ref (cb 4), .ref (cb 5), .ref (cb 6), .ref (cb 7), .ref (cb 8), .ref (cb 9), .ref (cb 10), .ref (cb 11)], aL E (cb 9) 18 (vp_updL na nc wd1_10), aN E (cb 10) 18 (upN ns nc 2), aN E (cb 11) 18 (upN nu nc (cy 5)), aN E (cb 0) 8 (upN gm (cy 5) x_26), aN E (cb 1) 8 (upN gi (cy 5) x_36), aN E (cb 2) 8 (upN gf (cy 5) qx), aN E (cb 3) 8 (upN go_ (cy 5) x_64), aI E (cb 4) 8 gt_]) (by rw [upd_nI]; rfl) ?_
                        refine v_aload_n X dX8_readClause_183 rfl 7 rfl ?_
                        refine v_get X kcX8 fl_X8_142 dX8_readClause_184 0 rfl rfl ?_
                        refine v_getN X kcX7 fl_X8_263 dX8_readClause_187 2 rfl rfl ?_
                        refine v_iload X dX8_readClause_190 0 rfl ?_
                        refine v_iload X dX8_readClause_192 1 rfl ?_
                        refine v_iast X dX8_readClause_194 10 rfl (by omega) (by decide) (ws' := [ob k 8 [.int (nI th), .int (nI tr), .int wh, va_rf g, .ref gr7, .ref (q 5), .int (nI (z 6)), .int (nI sz), .int (nI sp1_64), .int (nI so1_64), .int (nI pl1_64), .int nb1_64, .int (nI (z 12)), .int wa, .long wd1_64, .ref (q 15), .ref (q 16), .ref (q 17), .ref (q 18), .int (nI (z 19)), .int (nI (z 20)), .ref (q 21), .long (lN ev), .ref (q 23), .ref (q 24), .int (nI (z 25)), .ref (q 26), .int al, .long wl, .int (nI (z 29))], aB E (q 5) 900 tp, ob gr7 7 [.int bl, .int (nI (cy 1)), .int (nI (cy 2)), .int (nI (cy 3)), .int (nI (cy 4)), .int (nI (cy 5)), .int (nI (cy 6)), .int (nI (cy 7)), .int (nI kp), .int (nI (nc + 1)), .ref (cb 0), .ref (cb 1), .ref (cb 2), .ref (cb 3), .ref (cb 4), .ref (cb 5), .ref (cb 6), .ref (cb 7), .ref (cb 8), .ref (cb 9), .ref (cb 10), .ref (cb 11)], aL E (cb 9) 18 (vp_updL na nc wd1_10), aN E (cb 10) 18 (upN ns nc 2), aN E (cb 11) 18 (upN nu nc (cy 5)), aN E (cb 0) 8 (upN gm (cy 5) x_26), aN E (cb 1) 8 (upN gi (cy 5) x_36), aN E (cb 2) 8 (upN gf (cy 5) qx), aN E (cb 3) 8 (upN go_ (cy 5) x_64), aI E (cb 4) 8 (upd gt_ (cy 5) (-2))]) rfl ?_
                        refine v_aload_n X dX8_readClause_195 rfl 7 rfl ?_
                        refine v_get X kcX8 fl_X8_142 dX8_readClause_196 0 rfl rfl ?_
                        refine v_dup X dX8_readClause_199 rfl ?_
                        refine v_getN X kcX7 fl_X8_240 dX8_readClause_200 2 rfl rfl ?_
                        refine v_iconst X dX8_readClause_203 (v := nI 1) (by decide) ?_
                        refine v_iadd X dX8_readClause_204 ?_
                        refine v_eqi (x' := nI ((cy 5) + 1)) (nI_add _ _) ?_
                        refine v_putN X kcX7 fl_X8_240 dX8_readClause_205 2 rfl (ws' := [ob k 8 [.int (nI th), .int (nI tr), .int wh, va_rf g, .ref gr7, .ref (q 5), .int (nI (z 6)), .int (nI sz), .int (nI sp1_64), .int (nI so1_64), .int (nI pl1_64), .int nb1_64, .int (nI (z 12)), .int wa, .long wd1_64, .ref (q 15), .ref (q 16), .ref (q 17), .ref (q 18), .int (nI (z 19)), .int (nI (z 20)), .ref (q 21), .long (lN ev), .ref (q 23), .ref (q 24), .int (nI (z 25)), .ref (q 26), .int al, .long wl, .int (nI (z 29))], aB E (q 5) 900 tp, ob gr7 7 [.int bl, .int (nI (cy 1)), .int (nI (cy 2)), .int (nI (cy 3)), .int (nI (cy 4)), .int (nI ((cy 5) + 1)), .int (nI (cy 6)), .int (nI (cy 7)), .int (nI kp), .int (nI (nc + 1)), .ref (cb 0), .ref (cb 1), .ref (cb 2), .ref (cb 3), .ref (cb 4), .ref (cb 5), .ref (cb 6), .ref (cb 7), .ref (cb 8), .ref (cb 9), .ref (cb 10), .ref (cb 11)], aL E (cb 9) 18 (vp_updL na nc wd1_10), aN E (cb 10) 18 (upN ns nc 2), aN E (cb 11) 18 (upN nu nc (cy 5)), aN E (cb 0) 8 (upN gm (cy 5) x_26), aN E (cb 1) 8 (upN gi (cy 5) x_36), aN E (cb 2) 8 (upN gf (cy 5) qx), aN E (cb 3) 8 (upN go_ (cy 5) x_64), aI E (cb 4) 8 (upd gt_ (cy 5) (-2))]) rfl rfl ?_
                        exact v_vret X Y dX8_readClause_208 (Or.inl ⟨x_26, x_36, qx, x_64, (-2), wd1_10, tk1_64, so1_64, pl1_64, sp1_64, wd1_64, nb1_64, (h1_10), (h2_10), (by rw [hA_10, clause_e, hW_14 3 (cy 5), sb_k, hW_21, sb_k, show pnS tp sz kwd 1 0 (nm.1 + 1, vp_updL nm.2.1 nm.1 tk1_10.2.2.2, upN nm.2.2.1 nm.1 3, upN nm.2.2.2 nm.1 (cy 5)) tk1_21 = _ from (pn_new (by decide)).trans hW_26, sb_k, hW_36, sb_k, fo_ok hF rfl, sb_k, show pnS tp sz kwd 2 0 (nm.1 + 1, vp_updL nm.2.1 nm.1 tk1_10.2.2.2, upN nm.2.2.1 nm.1 3, upN nm.2.2.2 nm.1 (cy 5)) (advK tp sz tk1_36) = _ from (pn_new (by decide)).trans hW_64, sb_k, if_pos h76]), (hT_64), (hU_64), (hS_64), (⟨so1_10, pl1_10, sp1_10, nb1_10, by rw [hA_10]; exact hT_10, by rw [hA_10]; exact hk1_14⟩), rfl, rfl⟩) (by omega) (by omega)
                      · exfalso; omega
                    · refine v_aload_n X dX8_readClause_79 rfl 6 rfl ?_
                      refine v_iconst X dX8_readClause_80 (v := nI 1) (by decide) ?_
                      refine v_wr X (rn_V X k_X8_knownOne ml_X8_171 dX8_readClause_81 (c_X8_knownOneL l E k th tr wh g q z nb1_64 wa wd1_64 ev al wl sz sp1_64 so1_64 pl1_64 tp tk1_64 kwd gr7 cy bl kp nc cb na ns nu nm 1 (by first | assumption | omega) (hT_64) (hS_64) (by first | assumption | omega) (by first | assumption | omega) (by first | assumption | omega) (by decide)) rfl 0 rfl rfl (by decide) (by decide) (by omega) (by omega) (Nat.le_of_ble_eq_true rfl)) [0, 2, 3, 4, 5] rfl rfl (fun r w1 hpo => ?_)
                      rcases hpo with ⟨x_81, hW_81, rfl, rfl⟩ | ⟨f_81, p_81, hW_81, rfl, rfl⟩
                      · refine ⟨rfl, ?_⟩
                        refine V.cast (st' := [.int (nI x_81)]) (ws' := [ob k 8 [.int (nI th), .int (nI tr), .int wh, va_rf g, .ref gr7, .ref (q 5), .int (nI (z 6)), .int (nI sz), .int (nI sp1_64), .int (nI so1_64), .int (nI pl1_64), .int nb1_64, .int (nI (z 12)), .int wa, .long wd1_64, .ref (q 15), .ref (q 16), .ref (q 17), .ref (q 18), .int (nI (z 19)), .int (nI (z 20)), .ref (q 21), .long (lN ev), .ref (q 23), .ref (q 24), .int (nI (z 25)), .ref (q 26), .int al, .long wl, .int (nI (z 29))], aB E (q 5) 900 tp, ob gr7 7 [.int bl, .int (nI (cy 1)), .int (nI (cy 2)), .int (nI (cy 3)), .int (nI (cy 4)), .int (nI (cy 5)), .int (nI (cy 6)), .int (nI (cy 7)), .int (nI kp), .int (nI nc), .ref (cb 0), .ref (cb 1), .ref (cb 2), .ref (cb 3), .ref (cb 4), .ref (cb 5), .ref (cb 6), .ref (cb 7), .ref (cb 8), .ref (cb 9), .ref (cb 10), .ref (cb 11)], aL E (cb 9) 18 na, aN E (cb 10) 18 ns, aN E (cb 11) 18 nu, aN E (cb 0) 8 gm, aN E (cb 1) 8 gi, aN E (cb 2) 8 gf, aN E (cb 3) 8 go_, aI E (cb 4) 8 gt_]) rfl rfl rfl ?_
                        have hx81 : x_81 < 8 := kn_lt hNR hnu hW_81
                        have hspe2 : sp1_64 = tk1_64.2.2.1 := t8_sp hT_64 (kn_so hT_64 hW_81)
                        refine v_istore X dX8_readClause_84 (by decide) (lv' := [(7, .int (nI x_81)), (6, .int (nI x_64)), (5, .int (nI qx)), (4, .int (nI x_36)), (3, .int (nI x_26)), (1, .long wd1_10), (0, .ref k)]) rfl ?_
                        refine v_aload_n X dX8_readClause_86 rfl 6 rfl ?_
                        refine v_get X kcX8 fl_X8_75 dX8_readClause_87 0 rfl rfl ?_
                        refine v_iconst X dX8_readClause_90 (v := nI 5) (by decide) ?_
                        refine v_icmpN_eq X dX8_readClause_91 (tgt := 106) (by decide) (by omega) (by decide) (fun h91 => ?_) (fun h91 => ?_)
                        · exfalso; omega
                        · refine v_iload X dX8_readClause_94 1 rfl ?_
                          refine v_iload X dX8_readClause_96 0 rfl ?_
                          refine v_icmpN_ne X dX8_readClause_98 (tgt := 106) (by decide) (by omega) (by omega) (fun h98 => ?_) (fun h98 => ?_)
                          · refine v_aload_n X dX8_readClause_106 rfl 6 rfl ?_
                            refine v_wr X (rn_V X k_X8_goesOn ml_X8_111 dX8_readClause_107 (c_X8_goesOnL l E k th tr wh g (some gr7) q z nb1_64 wa wd1_64 ev al wl sz sp1_64 so1_64 pl1_64 tp tk1_64.2.2.2 (hS_64) (by first | assumption | omega) (by rw [hspe2]; exact hU_64.2.2.1) (by first | assumption | omega)) rfl 0 rfl rfl (by decide) (by decide) (by omega) (by omega) (Nat.le_of_ble_eq_true rfl)) [0, 1] rfl rfl (fun r w1 hpo => ?_)
                            rcases hpo with ⟨so1_107, pl1_107, sp1_107, wd1_107, nb1_107, hT8_107, hs1_107, hs4_107, rfl, rfl⟩
                            · refine ⟨rfl, ?_⟩
                              refine V.cast (st' := []) (ws' := [ob k 8 [.int (nI th), .int (nI tr), .int wh, va_rf g, .ref gr7, .ref (q 5), .int (nI (z 6)), .int (nI sz), .int (nI sp1_107), .int (nI so1_107), .int (nI pl1_107), .int nb1_107, .int (nI (z 12)), .int wa, .long wd1_107, .ref (q 15), .ref (q 16), .ref (q 17), .ref (q 18), .int (nI (z 19)), .int (nI (z 20)), .ref (q 21), .long (lN ev), .ref (q 23), .ref (q 24), .int (nI (z 25)), .ref (q 26), .int al, .long wl, .int (nI (z 29))], aB E (q 5) 900 tp, ob gr7 7 [.int bl, .int (nI (cy 1)), .int (nI (cy 2)), .int (nI (cy 3)), .int (nI (cy 4)), .int (nI (cy 5)), .int (nI (cy 6)), .int (nI (cy 7)), .int (nI kp), .int (nI nc), .ref (cb 0), .ref (cb 1), .ref (cb 2), .ref (cb 3), .ref (cb 4), .ref (cb 5), .ref (cb 6), .ref (cb 7), .ref (cb 8), .ref (cb 9), .ref (cb 10), .ref (cb 11)], aL E (cb 9) 18 na, aN E (cb 10) 18 ns, aN E (cb 11) 18 nu, aN E (cb 0) 8 gm, aN E (cb 1) 8 gi, aN E (cb 2) 8 gf, aN E (cb 3) 8 go_, aI E (cb 4) 8 gt_]) rfl rfl rfl ?_
                              refine v_aload_n X dX8_readClause_110 rfl 6 rfl ?_
                              refine v_get X kcX8 fl_X8_75 dX8_readClause_111 0 rfl rfl ?_
                              refine v_iconst X dX8_readClause_114 (v := nI 5) (by decide) ?_
                              refine v_icmpN_ne X dX8_readClause_115 (tgt := 119) (by decide) (by omega) (by decide) (fun h115 => ?_) (fun h115 => ?_)
                              · refine v_aload_n X dX8_readClause_119 rfl 6 rfl ?_
                                refine v_get X kcX8 fl_X8_142 dX8_readClause_120 0 rfl rfl ?_
                                refine v_getN X kcX7 fl_X8_240 dX8_readClause_123 2 rfl rfl ?_
                                refine v_istore X dX8_readClause_126 (by decide) (lv' := [(8, .int (nI (cy 5))), (7, .int (nI x_81)), (6, .int (nI x_64)), (5, .int (nI qx)), (4, .int (nI x_36)), (3, .int (nI x_26)), (1, .long wd1_10), (0, .ref k)]) rfl ?_
                                refine v_aload_n X dX8_readClause_128 rfl 7 rfl ?_
                                refine v_lload_n X dX8_readClause_129 rfl 6 rfl ?_
                                refine v_iconst X dX8_readClause_130 (v := nI 2) (by decide) ?_
                                refine v_iload X dX8_readClause_131 0 rfl ?_
                                refine v_wrV1 X (rn_V X k_X8_names ml_X8_225 dX8_readClause_133 (c_X8_names l E k th tr wh g q (upN (upN (upN (upN z 7 sz) 8 sp1_107) 9 so1_107) 10 pl1_107) nb1_107 wa wd1_107 ev al wl gr7 cy bl kp nc cb na ns nu wd1_10 2 (cy 5) (by have := hNR.1; have := hz18 h1_10; omega)) rfl 0 rfl rfl (by decide) (by decide) (by omega) (by omega) (Nat.le_of_ble_eq_true rfl)) [0, 2, 3, 4, 5] rfl rfl (ws' := [ob k 8 [.int (nI th), .int (nI tr), .int wh, va_rf g, .ref gr7, .ref (q 5), .int (nI (z 6)), .int (nI sz), .int (nI sp1_107), .int (nI so1_107), .int (nI pl1_107), .int nb1_107, .int (nI (z 12)), .int wa, .long wd1_107, .ref (q 15), .ref (q 16), .ref (q 17), .ref (q 18), .int (nI (z 19)), .int (nI (z 20)), .ref (q 21), .long (lN ev), .ref (q 23), .ref (q 24), .int (nI (z 25)), .ref (q 26), .int al, .long wl, .int (nI (z 29))], aB E (q 5) 900 tp, ob gr7 7 [.int bl, .int (nI (cy 1)), .int (nI (cy 2)), .int (nI (cy 3)), .int (nI (cy 4)), .int (nI (cy 5)), .int (nI (cy 6)), .int (nI (cy 7)), .int (nI kp), .int (nI (nc + 1)), .ref (cb 0), .ref (cb 1), .ref (cb 2), .ref (cb 3), .ref (cb 4), .ref (cb 5), .ref (cb 6), .ref (cb 7), .ref (cb 8), .ref (cb 9), .ref (cb 10), .ref (cb 11)], aL E (cb 9) 18 (vp_updL na nc wd1_10), aN E (cb 10) 18 (upN ns nc 2), aN E (cb 11) 18 (upN nu nc (cy 5)), aN E (cb 0) 8 gm, aN E (cb 1) 8 gi, aN E (cb 2) 8 gf, aN E (cb 3) 8 go_, aI E (cb 4) 8 gt_]) rfl rfl ?_
                                refine v_aload_n X dX8_readClause_136 rfl 7 rfl ?_
                                refine v_get X kcX8 fl_X8_142 dX8_readClause_137 0 rfl rfl ?_
                                refine v_getN X kcX7 fl_X8_253 dX8_readClause_140 2 rfl rfl ?_
                                refine v_iload X dX8_readClause_143 0 rfl ?_
                                refine v_iload_n X dX8_readClause_145 rfl 5 rfl ?_
                                refine v_iast X dX8_readClause_146 6 rfl (by omega) (by decide) (ws' := [ob k 8 [.int (nI th), .int (nI tr), .int wh, va_rf g, .ref gr7, .ref (q 5), .int (nI (z 6)), .int (nI sz), .int (nI sp1_107), .int (nI so1_107), .int (nI pl1_107), .int nb1_107, .int (nI (z 12)), .int wa, .long wd1_107, .ref (q 15), .ref (q 16), .ref (q 17), .ref (q 18), .int (nI (z 19)), .int (nI (z 20)), .ref (q 21), .long (lN ev), .ref (q 23), .ref (q 24), .int (nI (z 25)), .ref (q 26), .int al, .long wl, .int (nI (z 29))], aB E (q 5) 900 tp, ob gr7 7 [.int bl, .int (nI (cy 1)), .int (nI (cy 2)), .int (nI (cy 3)), .int (nI (cy 4)), .int (nI (cy 5)), .int (nI (cy 6)), .int (nI (cy 7)), .int (nI kp), .int (nI (nc + 1)), .ref (cb 0), .ref (cb 1), .ref (cb 2), .ref (cb 3), .ref (cb 4), .ref (cb 5), .ref (cb 6), .ref (cb 7), .ref (cb 8), .ref (cb 9), .ref (cb 10), .ref (cb 11)], aL E (cb 9) 18 (vp_updL na nc wd1_10), aN E (cb 10) 18 (upN ns nc 2), aN E (cb 11) 18 (upN nu nc (cy 5)), aN E (cb 0) 8 (upN gm (cy 5) x_26), aN E (cb 1) 8 gi, aN E (cb 2) 8 gf, aN E (cb 3) 8 go_, aI E (cb 4) 8 gt_]) (by rw [upd_nI]; rfl) ?_
                                refine v_aload_n X dX8_readClause_147 rfl 7 rfl ?_
                                refine v_get X kcX8 fl_X8_142 dX8_readClause_148 0 rfl rfl ?_
                                refine v_getN X kcX7 fl_X8_255 dX8_readClause_151 2 rfl rfl ?_
                                refine v_iload X dX8_readClause_154 0 rfl ?_
                                refine v_iload X dX8_readClause_156 4 rfl ?_
                                refine v_iast X dX8_readClause_158 7 rfl (by omega) (by decide) (ws' := [ob k 8 [.int (nI th), .int (nI tr), .int wh, va_rf g, .ref gr7, .ref (q 5), .int (nI (z 6)), .int (nI sz), .int (nI sp1_107), .int (nI so1_107), .int (nI pl1_107), .int nb1_107, .int (nI (z 12)), .int wa, .long wd1_107, .ref (q 15), .ref (q 16), .ref (q 17), .ref (q 18), .int (nI (z 19)), .int (nI (z 20)), .ref (q 21), .long (lN ev), .ref (q 23), .ref (q 24), .int (nI (z 25)), .ref (q 26), .int al, .long wl, .int (nI (z 29))], aB E (q 5) 900 tp, ob gr7 7 [.int bl, .int (nI (cy 1)), .int (nI (cy 2)), .int (nI (cy 3)), .int (nI (cy 4)), .int (nI (cy 5)), .int (nI (cy 6)), .int (nI (cy 7)), .int (nI kp), .int (nI (nc + 1)), .ref (cb 0), .ref (cb 1), .ref (cb 2), .ref (cb 3), .ref (cb 4), .ref (cb 5), .ref (cb 6), .ref (cb 7), .ref (cb 8), .ref (cb 9), .ref (cb 10), .ref (cb 11)], aL E (cb 9) 18 (vp_updL na nc wd1_10), aN E (cb 10) 18 (upN ns nc 2), aN E (cb 11) 18 (upN nu nc (cy 5)), aN E (cb 0) 8 (upN gm (cy 5) x_26), aN E (cb 1) 8 (upN gi (cy 5) x_36), aN E (cb 2) 8 gf, aN E (cb 3) 8 go_, aI E (cb 4) 8 gt_]) (by rw [upd_nI]; rfl) ?_
                                refine v_aload_n X dX8_readClause_159 rfl 7 rfl ?_
                                refine v_get X kcX8 fl_X8_142 dX8_readClause_160 0 rfl rfl ?_
                                refine v_getN X kcX7 fl_X8_257 dX8_readClause_163 2 rfl rfl ?_
                                refine v_iload X dX8_readClause_166 0 rfl ?_
                                refine v_iload X dX8_readClause_168 3 rfl ?_
                                refine v_iast X dX8_readClause_170 8 rfl (by omega) (by decide) (ws' := [ob k 8 [.int (nI th), .int (nI tr), .int wh, va_rf g, .ref gr7, .ref (q 5), .int (nI (z 6)), .int (nI sz), .int (nI sp1_107), .int (nI so1_107), .int (nI pl1_107), .int nb1_107, .int (nI (z 12)), .int wa, .long wd1_107, .ref (q 15), .ref (q 16), .ref (q 17), .ref (q 18), .int (nI (z 19)), .int (nI (z 20)), .ref (q 21), .long (lN ev), .ref (q 23), .ref (q 24), .int (nI (z 25)), .ref (q 26), .int al, .long wl, .int (nI (z 29))], aB E (q 5) 900 tp, ob gr7 7 [.int bl, .int (nI (cy 1)), .int (nI (cy 2)), .int (nI (cy 3)), .int (nI (cy 4)), .int (nI (cy 5)), .int (nI (cy 6)), .int (nI (cy 7)), .int (nI kp), .int (nI (nc + 1)), .ref (cb 0), .ref (cb 1), .ref (cb 2), .ref (cb 3), .ref (cb 4), .ref (cb 5), .ref (cb 6), .ref (cb 7), .ref (cb 8), .ref (cb 9), .ref (cb 10), .ref (cb 11)], aL E (cb 9) 18 (vp_updL na nc wd1_10), aN E (cb 10) 18 (upN ns nc 2), aN E (cb 11) 18 (upN nu nc (cy 5)), aN E (cb 0) 8 (upN gm (cy 5) x_26), aN E (cb 1) 8 (upN gi (cy 5) x_36), aN E (cb 2) 8 (upN gf (cy 5) qx), aN E (cb 3) 8 go_, aI E (cb 4) 8 gt_]) (by rw [upd_nI]; rfl) ?_
                                refine v_aload_n X dX8_readClause_171 rfl 7 rfl ?_
                                refine v_get X kcX8 fl_X8_142 dX8_readClause_172 0 rfl rfl ?_
                                refine v_getN X kcX7 fl_X8_260 dX8_readClause_175 2 rfl rfl ?_
                                refine v_iload X dX8_readClause_178 0 rfl ?_
                                refine v_iload X dX8_readClause_180 2 rfl ?_
                                refine v_iast X dX8_readClause_182 9 rfl (by omega) (by decide) (ws' := [ob k 8 [.int (nI th), .int (nI tr), .int wh, va_rf g, .ref gr7, .ref (q 5), .int (nI (z 6)), .int (nI sz), .int (nI sp1_107), .int (nI so1_107), .int (nI pl1_107), .int nb1_107, .int (nI (z 12)), .int wa, .long wd1_107, .ref (q 15), .ref (q 16), .ref (q 17), .ref (q 18), .int (nI (z 19)), .int (nI (z 20)), .ref (q 21), .long (lN ev), .ref (q 23), .ref (q 24), .int (nI (z 25)), .ref (q 26), .int al, .long wl, .int (nI (z 29))], aB E (q 5) 900 tp, ob gr7 7 [.int bl, .int (nI (cy 1)), .int (nI (cy 2)), .int (nI (cy 3)), .int (nI (cy 4)), .int (nI (cy 5)), .int (nI (cy 6)), .int (nI (cy 7)), .int (nI kp), .int (nI (nc + 1)), .ref (cb 0), .ref (cb 1), .ref (cb 2), .ref (cb 3), .ref (cb 4), .ref (cb 5), .ref (cb 6), .ref (cb 7), .ref (cb 8), .ref (cb 9), .ref (cb 10), .ref (cb 11)], aL E (cb 9) 18 (vp_updL na nc wd1_10), aN E (cb 10) 18 (upN ns nc 2), aN E (cb 11) 18 (upN nu nc (cy 5)), aN E (cb 0) 8 (upN gm (cy 5) x_26), aN E (cb 1) 8 (upN gi (cy 5) x_36), aN E (cb 2) 8 (upN gf (cy 5) qx), aN E (cb 3) 8 (upN go_ (cy 5) x_64), aI E (cb 4) 8 gt_]) (by rw [upd_nI]; rfl) ?_
                                refine v_aload_n X dX8_readClause_183 rfl 7 rfl ?_
                                refine v_get X kcX8 fl_X8_142 dX8_readClause_184 0 rfl rfl ?_
                                refine v_getN X kcX7 fl_X8_263 dX8_readClause_187 2 rfl rfl ?_
                                refine v_iload X dX8_readClause_190 0 rfl ?_
                                refine v_iload X dX8_readClause_192 1 rfl ?_
                                refine v_iast X dX8_readClause_194 10 rfl (by omega) (by decide) (ws' := [ob k 8 [.int (nI th), .int (nI tr), .int wh, va_rf g, .ref gr7, .ref (q 5), .int (nI (z 6)), .int (nI sz), .int (nI sp1_107), .int (nI so1_107), .int (nI pl1_107), .int nb1_107, .int (nI (z 12)), .int wa, .long wd1_107, .ref (q 15), .ref (q 16), .ref (q 17), .ref (q 18), .int (nI (z 19)), .int (nI (z 20)), .ref (q 21), .long (lN ev), .ref (q 23), .ref (q 24), .int (nI (z 25)), .ref (q 26), .int al, .long wl, .int (nI (z 29))], aB E (q 5) 900 tp, ob gr7 7 [.int bl, .int (nI (cy 1)), .int (nI (cy 2)), .int (nI (cy 3)), .int (nI (cy 4)), .int (nI (cy 5)), .int (nI (cy 6)), .int (nI (cy 7)), .int (nI kp), .int (nI (nc + 1)), .ref (cb 0), .ref (cb 1), .ref (cb 2), .ref (cb 3), .ref (cb 4), .ref (cb 5), .ref (cb 6), .ref (cb 7), .ref (cb 8), .ref (cb 9), .ref (cb 10), .ref (cb 11)], aL E (cb 9) 18 (vp_updL na nc wd1_10), aN E (cb 10) 18 (upN ns nc 2), aN E (cb 11) 18 (upN nu nc (cy 5)), aN E (cb 0) 8 (upN gm (cy 5) x_26), aN E (cb 1) 8 (upN gi (cy 5) x_36), aN E (cb 2) 8 (upN gf (cy 5) qx), aN E (cb 3) 8 (upN go_ (cy 5) x_64), aI E (cb 4) 8 (upd gt_ (cy 5) (nI x_81))]) rfl ?_
                                refine v_aload_n X dX8_readClause_195 rfl 7 rfl ?_
                                refine v_get X kcX8 fl_X8_142 dX8_readClause_196 0 rfl rfl ?_
                                refine v_dup X dX8_readClause_199 rfl ?_
                                refine v_getN X kcX7 fl_X8_240 dX8_readClause_200 2 rfl rfl ?_
                                refine v_iconst X dX8_readClause_203 (v := nI 1) (by decide) ?_
                                refine v_iadd X dX8_readClause_204 ?_
                                refine v_eqi (x' := nI ((cy 5) + 1)) (nI_add _ _) ?_
                                refine v_putN X kcX7 fl_X8_240 dX8_readClause_205 2 rfl (ws' := [ob k 8 [.int (nI th), .int (nI tr), .int wh, va_rf g, .ref gr7, .ref (q 5), .int (nI (z 6)), .int (nI sz), .int (nI sp1_107), .int (nI so1_107), .int (nI pl1_107), .int nb1_107, .int (nI (z 12)), .int wa, .long wd1_107, .ref (q 15), .ref (q 16), .ref (q 17), .ref (q 18), .int (nI (z 19)), .int (nI (z 20)), .ref (q 21), .long (lN ev), .ref (q 23), .ref (q 24), .int (nI (z 25)), .ref (q 26), .int al, .long wl, .int (nI (z 29))], aB E (q 5) 900 tp, ob gr7 7 [.int bl, .int (nI (cy 1)), .int (nI (cy 2)), .int (nI (cy 3)), .int (nI (cy 4)), .int (nI ((cy 5) + 1)), .int (nI (cy 6)), .int (nI (cy 7)), .int (nI kp), .int (nI (nc + 1)), .ref (cb 0), .ref (cb 1), .ref (cb 2), .ref (cb 3), .ref (cb 4), .ref (cb 5), .ref (cb 6), .ref (cb 7), .ref (cb 8), .ref (cb 9), .ref (cb 10), .ref (cb 11)], aL E (cb 9) 18 (vp_updL na nc wd1_10), aN E (cb 10) 18 (upN ns nc 2), aN E (cb 11) 18 (upN nu nc (cy 5)), aN E (cb 0) 8 (upN gm (cy 5) x_26), aN E (cb 1) 8 (upN gi (cy 5) x_36), aN E (cb 2) 8 (upN gf (cy 5) qx), aN E (cb 3) 8 (upN go_ (cy 5) x_64), aI E (cb 4) 8 (upd gt_ (cy 5) (nI x_81))]) rfl rfl ?_
                                exact v_vret X Y dX8_readClause_208 (Or.inl ⟨x_26, x_36, qx, x_64, (nI x_81), wd1_10, (advK tp sz tk1_64), so1_107, pl1_107, sp1_107, wd1_107, nb1_107, (h1_10), (h2_10), (by rw [hA_10, clause_e, hW_14 3 (cy 5), sb_k, hW_21, sb_k, show pnS tp sz kwd 1 0 (nm.1 + 1, vp_updL nm.2.1 nm.1 tk1_10.2.2.2, upN nm.2.2.1 nm.1 3, upN nm.2.2.2 nm.1 (cy 5)) tk1_21 = _ from (pn_new (by decide)).trans hW_26, sb_k, hW_36, sb_k, fo_ok hF rfl, sb_k, show pnS tp sz kwd 2 0 (nm.1 + 1, vp_updL nm.2.1 nm.1 tk1_10.2.2.2, upN nm.2.2.1 nm.1 3, upN nm.2.2.2 nm.1 (cy 5)) (advK tp sz tk1_36) = _ from (pn_new (by decide)).trans hW_64, sb_k, if_neg h76, show pnS tp sz kwd 2 (2 ^ x_64) (nm.1 + 1, vp_updL nm.2.1 nm.1 tk1_10.2.2.2, upN nm.2.2.1 nm.1 3, upN nm.2.2.2 nm.1 (cy 5)) tk1_64 = _ from (pn_new (by decide)).trans (pn_kn.trans (by rw [show knS kwd 2 nm tk1_64 = _ from hW_81])), sb_k, if_neg (by rw [Nat.testBit_two_pow, decide_eq_false h98]; decide), sb_k]), (by have h9 := hT8_107; rw [hspe2] at h9; exact h9), ((advK_ok hU_64).1), (hs4_107), (⟨so1_10, pl1_10, sp1_10, nb1_10, by rw [hA_10]; exact hT_10, by rw [hA_10]; exact hk1_14⟩), rfl, rfl⟩) (by omega) (by omega)
                              · exfalso; omega
                          · refine v_aload_n X dX8_readClause_101 rfl 6 rfl ?_
                            refine v_iconst X dX8_readClause_102 (v := nI 3) (by decide) ?_
                            refine v_wrV1 X (rn_V X k_X8_flaw ml_X8_118 dX8_readClause_103 (c_X8_flaw l E k th tr wh g (some gr7) q (upN (upN z 7 sz) 8 sp1_64) nb1_64 wa wd1_64 ev al wl so1_64 pl1_64 3 (hS_64)) rfl 0 rfl rfl (by decide) (by decide) (by omega) (by omega) (Nat.le_of_ble_eq_true rfl)) [0] rfl rfl (ws' := [ob k 8 [.int (nI th), .int (nI tr), .int wh, va_rf g, .ref gr7, .ref (q 5), .int (nI (z 6)), .int (nI sz), .int (nI sp1_64), .int (nI 5), .int (nI pl1_64), .int nb1_64, .int (nI 3), .int (nI pl1_64), .long wd1_64, .ref (q 15), .ref (q 16), .ref (q 17), .ref (q 18), .int (nI (z 19)), .int (nI (z 20)), .ref (q 21), .long (lN ev), .ref (q 23), .ref (q 24), .int (nI (z 25)), .ref (q 26), .int al, .long wl, .int (nI (z 29))], aB E (q 5) 900 tp, ob gr7 7 [.int bl, .int (nI (cy 1)), .int (nI (cy 2)), .int (nI (cy 3)), .int (nI (cy 4)), .int (nI (cy 5)), .int (nI (cy 6)), .int (nI (cy 7)), .int (nI kp), .int (nI nc), .ref (cb 0), .ref (cb 1), .ref (cb 2), .ref (cb 3), .ref (cb 4), .ref (cb 5), .ref (cb 6), .ref (cb 7), .ref (cb 8), .ref (cb 9), .ref (cb 10), .ref (cb 11)], aL E (cb 9) 18 na, aN E (cb 10) 18 ns, aN E (cb 11) 18 nu, aN E (cb 0) 8 gm, aN E (cb 1) 8 gi, aN E (cb 2) 8 gf, aN E (cb 3) 8 go_, aI E (cb 4) 8 gt_]) rfl rfl ?_
                            refine v_aload_n X dX8_readClause_106 rfl 6 rfl ?_
                            refine v_roV1 X (rn_V X k_X8_goesOn ml_X8_111 dX8_readClause_107 (c_X8_goesOn_o l E k th tr wh g (some gr7) q (upN (upN (upN (upN z 7 sz) 8 sp1_64) 10 pl1_64) 12 3) nb1_64 (nI pl1_64) wd1_64 ev al wl ) rfl 0 rfl rfl (by decide) (by decide) (by omega) (by omega) (Nat.le_of_ble_eq_true rfl)) [0] rfl rfl ?_
                            refine v_aload_n X dX8_readClause_110 rfl 6 rfl ?_
                            refine v_get X kcX8 fl_X8_75 dX8_readClause_111 0 rfl rfl ?_
                            refine v_iconst X dX8_readClause_114 (v := nI 5) (by decide) ?_
                            refine v_icmpN_ne X dX8_readClause_115 (tgt := 119) (by decide) (by decide) (by decide) (fun h115 => ?_) (fun h115 => ?_)
                            · exfalso; omega
                            · exact v_vret X Y dX8_readClause_118 (Or.inr ⟨3, pl1_64, pl1_64, sp1_64, wd1_64, nb1_64, (Or.inr (Or.inr ⟨h1_10, h2_10, by rw [hA_10, clause_e, hW_14 3 (cy 5), sb_k, hW_21, sb_k, show pnS tp sz kwd 1 0 (nm.1 + 1, vp_updL nm.2.1 nm.1 tk1_10.2.2.2, upN nm.2.2.1 nm.1 3, upN nm.2.2.2 nm.1 (cy 5)) tk1_21 = _ from (pn_new (by decide)).trans hW_26, sb_k, hW_36, sb_k, fo_ok hF rfl, sb_k, show pnS tp sz kwd 2 0 (nm.1 + 1, vp_updL nm.2.1 nm.1 tk1_10.2.2.2, upN nm.2.2.1 nm.1 3, upN nm.2.2.2 nm.1 (cy 5)) (advK tp sz tk1_36) = _ from (pn_new (by decide)).trans hW_64, sb_k, if_neg h76, show pnS tp sz kwd 2 (2 ^ x_64) (nm.1 + 1, vp_updL nm.2.1 nm.1 tk1_10.2.2.2, upN nm.2.2.1 nm.1 3, upN nm.2.2.2 nm.1 (cy 5)) tk1_64 = _ from (pn_new (by decide)).trans (pn_kn.trans (by rw [show knS kwd 2 nm tk1_64 = _ from hW_81])), sb_k, if_pos (by rw [← h98, Nat.testBit_two_pow_self]), sb_e]; exact congrArg (fun z => (Sum.inl (3, z) : Rx _)) hT_64.1.symm⟩)), rfl, rfl⟩) (by omega) (by omega)
                      · refine ⟨rfl, ?_⟩
                        refine V.cast (st' := [.int (nI 0)]) (ws' := [ob k 8 [.int (nI th), .int (nI tr), .int wh, va_rf g, .ref gr7, .ref (q 5), .int (nI (z 6)), .int (nI sz), .int (nI sp1_64), .int (nI 5), .int (nI pl1_64), .int nb1_64, .int (nI f_81), .int (nI p_81), .long wd1_64, .ref (q 15), .ref (q 16), .ref (q 17), .ref (q 18), .int (nI (z 19)), .int (nI (z 20)), .ref (q 21), .long (lN ev), .ref (q 23), .ref (q 24), .int (nI (z 25)), .ref (q 26), .int al, .long wl, .int (nI (z 29))], aB E (q 5) 900 tp, ob gr7 7 [.int bl, .int (nI (cy 1)), .int (nI (cy 2)), .int (nI (cy 3)), .int (nI (cy 4)), .int (nI (cy 5)), .int (nI (cy 6)), .int (nI (cy 7)), .int (nI kp), .int (nI nc), .ref (cb 0), .ref (cb 1), .ref (cb 2), .ref (cb 3), .ref (cb 4), .ref (cb 5), .ref (cb 6), .ref (cb 7), .ref (cb 8), .ref (cb 9), .ref (cb 10), .ref (cb 11)], aL E (cb 9) 18 na, aN E (cb 10) 18 ns, aN E (cb 11) 18 nu, aN E (cb 0) 8 gm, aN E (cb 1) 8 gi, aN E (cb 2) 8 gf, aN E (cb 3) 8 go_, aI E (cb 4) 8 gt_]) rfl rfl rfl ?_
                        refine v_istore X dX8_readClause_84 (by decide) (lv' := [(7, .int (nI 0)), (6, .int (nI x_64)), (5, .int (nI qx)), (4, .int (nI x_36)), (3, .int (nI x_26)), (1, .long wd1_10), (0, .ref k)]) rfl ?_
                        refine v_aload_n X dX8_readClause_86 rfl 6 rfl ?_
                        refine v_get X kcX8 fl_X8_75 dX8_readClause_87 0 rfl rfl ?_
                        refine v_iconst X dX8_readClause_90 (v := nI 5) (by decide) ?_
                        refine v_icmpN_eq X dX8_readClause_91 (tgt := 106) (by decide) (by decide) (by decide) (fun h91 => ?_) (fun h91 => ?_)
                        · refine v_aload_n X dX8_readClause_106 rfl 6 rfl ?_
                          refine v_roV1 X (rn_V X k_X8_goesOn ml_X8_111 dX8_readClause_107 (c_X8_goesOn_o l E k th tr wh g (some gr7) q (upN (upN (upN (upN z 7 sz) 8 sp1_64) 10 pl1_64) 12 f_81) nb1_64 (nI p_81) wd1_64 ev al wl ) rfl 0 rfl rfl (by decide) (by decide) (by omega) (by omega) (Nat.le_of_ble_eq_true rfl)) [0] rfl rfl ?_
                          refine v_aload_n X dX8_readClause_110 rfl 6 rfl ?_
                          refine v_get X kcX8 fl_X8_75 dX8_readClause_111 0 rfl rfl ?_
                          refine v_iconst X dX8_readClause_114 (v := nI 5) (by decide) ?_
                          refine v_icmpN_ne X dX8_readClause_115 (tgt := 119) (by decide) (by decide) (by decide) (fun h115 => ?_) (fun h115 => ?_)
                          · exfalso; omega
                          · exact v_vret X Y dX8_readClause_118 (Or.inr ⟨f_81, p_81, pl1_64, sp1_64, wd1_64, nb1_64, (Or.inr (Or.inr ⟨h1_10, h2_10, by rw [hA_10, clause_e, hW_14 3 (cy 5), sb_k, hW_21, sb_k, show pnS tp sz kwd 1 0 (nm.1 + 1, vp_updL nm.2.1 nm.1 tk1_10.2.2.2, upN nm.2.2.1 nm.1 3, upN nm.2.2.2 nm.1 (cy 5)) tk1_21 = _ from (pn_new (by decide)).trans hW_26, sb_k, hW_36, sb_k, fo_ok hF rfl, sb_k, show pnS tp sz kwd 2 0 (nm.1 + 1, vp_updL nm.2.1 nm.1 tk1_10.2.2.2, upN nm.2.2.1 nm.1 3, upN nm.2.2.2 nm.1 (cy 5)) (advK tp sz tk1_36) = _ from (pn_new (by decide)).trans hW_64, sb_k, if_neg h76, show pnS tp sz kwd 2 (2 ^ x_64) (nm.1 + 1, vp_updL nm.2.1 nm.1 tk1_10.2.2.2, upN nm.2.2.1 nm.1 3, upN nm.2.2.2 nm.1 (cy 5)) tk1_64 = _ from (pn_new (by decide)).trans (pn_kn.trans (by rw [show knS kwd 2 nm tk1_64 = _ from hW_81])), sb_e, sb_e]⟩)), rfl, rfl⟩) (by omega) (by omega)
                        · exfalso; omega
                  · refine ⟨rfl, ?_⟩
                    refine V.cast (st' := [.int (nI 0)]) (ws' := [ob k 8 [.int (nI th), .int (nI tr), .int wh, va_rf g, .ref gr7, .ref (q 5), .int (nI (z 6)), .int (nI sz), .int (nI sp1_59), .int (nI 5), .int (nI pl1_59), .int nb1_59, .int (nI f_64), .int (nI p_64), .long wd1_59, .ref (q 15), .ref (q 16), .ref (q 17), .ref (q 18), .int (nI (z 19)), .int (nI (z 20)), .ref (q 21), .long (lN ev), .ref (q 23), .ref (q 24), .int (nI (z 25)), .ref (q 26), .int al, .long wl, .int (nI (z 29))], aB E (q 5) 900 tp, ob gr7 7 [.int bl, .int (nI (cy 1)), .int (nI (cy 2)), .int (nI (cy 3)), .int (nI (cy 4)), .int (nI (cy 5)), .int (nI (cy 6)), .int (nI (cy 7)), .int (nI kp), .int (nI nc), .ref (cb 0), .ref (cb 1), .ref (cb 2), .ref (cb 3), .ref (cb 4), .ref (cb 5), .ref (cb 6), .ref (cb 7), .ref (cb 8), .ref (cb 9), .ref (cb 10), .ref (cb 11)], aL E (cb 9) 18 na, aN E (cb 10) 18 ns, aN E (cb 11) 18 nu, aN E (cb 0) 8 gm, aN E (cb 1) 8 gi, aN E (cb 2) 8 gf, aN E (cb 3) 8 go_, aI E (cb 4) 8 gt_]) rfl rfl rfl ?_
                    refine v_istore X dX8_readClause_67 (by decide) (lv' := [(6, .int (nI 0)), (5, .int (nI qx)), (4, .int (nI x_36)), (3, .int (nI x_26)), (1, .long wd1_10), (0, .ref k)]) rfl ?_
                    refine v_bipush X dX8_readClause_69 (v := (-2)) (by decide) ?_
                    refine v_istore X dX8_readClause_71 (by decide) (lv' := [(7, .int (-2)), (6, .int (nI 0)), (5, .int (nI qx)), (4, .int (nI x_36)), (3, .int (nI x_26)), (1, .long wd1_10), (0, .ref k)]) rfl ?_
                    refine v_iload X dX8_readClause_73 2 rfl ?_
                    refine v_iconst X dX8_readClause_75 (v := nI 1) (by decide) ?_
                    refine v_icmpN_le X dX8_readClause_76 (tgt := 110) (by decide) (by omega) (by decide) (fun h76 => ?_) (fun h76 => ?_)
                    · refine v_aload_n X dX8_readClause_110 rfl 6 rfl ?_
                      refine v_get X kcX8 fl_X8_75 dX8_readClause_111 0 rfl rfl ?_
                      refine v_iconst X dX8_readClause_114 (v := nI 5) (by decide) ?_
                      refine v_icmpN_ne X dX8_readClause_115 (tgt := 119) (by decide) (by decide) (by decide) (fun h115 => ?_) (fun h115 => ?_)
                      · exfalso; omega
                      · exact v_vret X Y dX8_readClause_118 (Or.inr ⟨f_64, p_64, pl1_59, sp1_59, wd1_59, nb1_59, (Or.inr (Or.inr ⟨h1_10, h2_10, by rw [hA_10, clause_e, hW_14 3 (cy 5), sb_k, hW_21, sb_k, show pnS tp sz kwd 1 0 (nm.1 + 1, vp_updL nm.2.1 nm.1 tk1_10.2.2.2, upN nm.2.2.1 nm.1 3, upN nm.2.2.2 nm.1 (cy 5)) tk1_21 = _ from (pn_new (by decide)).trans hW_26, sb_k, hW_36, sb_k, fo_ok hF rfl, sb_k, show pnS tp sz kwd 2 0 (nm.1 + 1, vp_updL nm.2.1 nm.1 tk1_10.2.2.2, upN nm.2.2.1 nm.1 3, upN nm.2.2.2 nm.1 (cy 5)) (advK tp sz tk1_36) = _ from (pn_new (by decide)).trans hW_64, sb_e]⟩)), rfl, rfl⟩) (by omega) (by omega)
                    · refine v_aload_n X dX8_readClause_79 rfl 6 rfl ?_
                      refine v_iconst X dX8_readClause_80 (v := nI 1) (by decide) ?_
                      refine v_roI1 X (rn_V X k_X8_knownOne ml_X8_171 dX8_readClause_81 (c_X8_knownOne_o l E k th tr wh g q (upN (upN (upN (upN z 7 sz) 8 sp1_59) 10 pl1_59) 12 f_64) nb1_59 (nI p_64) wd1_59 ev al wl gr7 cy bl kp nc cb na ns nu 1 (by first | assumption | omega) (by first | assumption | omega) (by decide)) rfl 0 rfl rfl (by decide) (by decide) (by omega) (by omega) (Nat.le_of_ble_eq_true rfl)) [0, 2, 3, 4, 5] rfl rfl ?_
                      refine v_istore X dX8_readClause_84 (by decide) (lv' := [(7, .int (nI 0)), (6, .int (nI 0)), (5, .int (nI qx)), (4, .int (nI x_36)), (3, .int (nI x_26)), (1, .long wd1_10), (0, .ref k)]) rfl ?_
                      refine v_aload_n X dX8_readClause_86 rfl 6 rfl ?_
                      refine v_get X kcX8 fl_X8_75 dX8_readClause_87 0 rfl rfl ?_
                      refine v_iconst X dX8_readClause_90 (v := nI 5) (by decide) ?_
                      refine v_icmpN_eq X dX8_readClause_91 (tgt := 106) (by decide) (by decide) (by decide) (fun h91 => ?_) (fun h91 => ?_)
                      · refine v_aload_n X dX8_readClause_106 rfl 6 rfl ?_
                        refine v_roV1 X (rn_V X k_X8_goesOn ml_X8_111 dX8_readClause_107 (c_X8_goesOn_o l E k th tr wh g (some gr7) q (upN (upN (upN (upN z 7 sz) 8 sp1_59) 10 pl1_59) 12 f_64) nb1_59 (nI p_64) wd1_59 ev al wl ) rfl 0 rfl rfl (by decide) (by decide) (by omega) (by omega) (Nat.le_of_ble_eq_true rfl)) [0] rfl rfl ?_
                        refine v_aload_n X dX8_readClause_110 rfl 6 rfl ?_
                        refine v_get X kcX8 fl_X8_75 dX8_readClause_111 0 rfl rfl ?_
                        refine v_iconst X dX8_readClause_114 (v := nI 5) (by decide) ?_
                        refine v_icmpN_ne X dX8_readClause_115 (tgt := 119) (by decide) (by decide) (by decide) (fun h115 => ?_) (fun h115 => ?_)
                        · exfalso; omega
                        · exact v_vret X Y dX8_readClause_118 (Or.inr ⟨f_64, p_64, pl1_59, sp1_59, wd1_59, nb1_59, (Or.inr (Or.inr ⟨h1_10, h2_10, by rw [hA_10, clause_e, hW_14 3 (cy 5), sb_k, hW_21, sb_k, show pnS tp sz kwd 1 0 (nm.1 + 1, vp_updL nm.2.1 nm.1 tk1_10.2.2.2, upN nm.2.2.1 nm.1 3, upN nm.2.2.2 nm.1 (cy 5)) tk1_21 = _ from (pn_new (by decide)).trans hW_26, sb_k, hW_36, sb_k, fo_ok hF rfl, sb_k, show pnS tp sz kwd 2 0 (nm.1 + 1, vp_updL nm.2.1 nm.1 tk1_10.2.2.2, upN nm.2.2.1 nm.1 3, upN nm.2.2.2 nm.1 (cy 5)) (advK tp sz tk1_36) = _ from (pn_new (by decide)).trans hW_64, sb_e]⟩)), rfl, rfl⟩) (by omega) (by omega)
                      · exfalso; omega
              · exact (nm1 h50 (by omega)).elim
          · refine ⟨rfl, ?_⟩
            refine V.cast (st' := [.int (nI 1)]) (ws' := [ob k 8 [.int (nI th), .int (nI tr), .int wh, va_rf g, .ref gr7, .ref (q 5), .int (nI (z 6)), .int (nI sz), .int (nI sp1_36), .int (nI 5), .int (nI pl1_36), .int nb1_36, .int (nI f_36), .int (nI p_36), .long wd1_36, .ref (q 15), .ref (q 16), .ref (q 17), .ref (q 18), .int (nI (z 19)), .int (nI (z 20)), .ref (q 21), .long (lN ev), .ref (q 23), .ref (q 24), .int (nI (z 25)), .ref (q 26), .int al, .long wl, .int (nI (z 29))], aB E (q 5) 900 tp, ob gr7 7 [.int bl, .int (nI (cy 1)), .int (nI (cy 2)), .int (nI (cy 3)), .int (nI (cy 4)), .int (nI (cy 5)), .int (nI (cy 6)), .int (nI (cy 7)), .int (nI kp), .int (nI nc), .ref (cb 0), .ref (cb 1), .ref (cb 2), .ref (cb 3), .ref (cb 4), .ref (cb 5), .ref (cb 6), .ref (cb 7), .ref (cb 8), .ref (cb 9), .ref (cb 10), .ref (cb 11)], aL E (cb 9) 18 na, aN E (cb 10) 18 ns, aN E (cb 11) 18 nu, aN E (cb 0) 8 gm, aN E (cb 1) 8 gi, aN E (cb 2) 8 gf, aN E (cb 3) 8 go_, aI E (cb 4) 8 gt_]) rfl rfl rfl ?_
            refine v_istore X dX8_readClause_39 (by decide) (lv' := [(4, .int (nI 1)), (3, .int (nI x_26)), (1, .long wd1_10), (0, .ref k)]) rfl ?_
            refine v_aload_n X dX8_readClause_41 rfl 3 rfl ?_
            refine v_roI1 X (rn_V X k_X8_formAtHand ml_X8_250 dX8_readClause_42 (c_X8_formAtHand_o l E k th tr wh g (some gr7) q (upN (upN (upN (upN z 7 sz) 8 sp1_36) 10 pl1_36) 12 f_36) nb1_36 (nI p_36) wd1_36 ev al wl ) rfl 0 rfl rfl (by decide) (by decide) (by omega) (by omega) (Nat.le_of_ble_eq_true rfl)) [0] rfl rfl ?_
            refine v_istore X dX8_readClause_45 (by decide) (lv' := [(5, .int (-1)), (4, .int (nI 1)), (3, .int (nI x_26)), (1, .long wd1_10), (0, .ref k)]) rfl ?_
            refine v_iload X dX8_readClause_47 0 rfl ?_
            refine v_iconst X dX8_readClause_49 (v := (-1)) (by decide) ?_
            refine v_icmp_ne X dX8_readClause_50 (tgt := 58) (by decide) (fun h50 => ?_) (fun h50 => ?_)
            · exact absurd rfl h50
            · refine v_aload_n X dX8_readClause_53 rfl 4 rfl ?_
              refine v_iconst X dX8_readClause_54 (v := nI 1) (by decide) ?_
              refine v_roV1 X (rn_V X k_X8_flaw ml_X8_118 dX8_readClause_55 (c_X8_flaw_o l E k th tr wh g (some gr7) q (upN (upN (upN (upN z 7 sz) 8 sp1_36) 10 pl1_36) 12 f_36) nb1_36 (nI p_36) wd1_36 ev al wl 1 ) rfl 0 rfl rfl (by decide) (by decide) (by omega) (by omega) (Nat.le_of_ble_eq_true rfl)) [0] rfl rfl ?_
              refine v_aload_n X dX8_readClause_58 rfl 4 rfl ?_
              refine v_roV1 X (rn_V X k_X8_goesOn ml_X8_111 dX8_readClause_59 (c_X8_goesOn_o l E k th tr wh g (some gr7) q (upN (upN (upN (upN z 7 sz) 8 sp1_36) 10 pl1_36) 12 f_36) nb1_36 (nI p_36) wd1_36 ev al wl ) rfl 0 rfl rfl (by decide) (by decide) (by omega) (by omega) (Nat.le_of_ble_eq_true rfl)) [0] rfl rfl ?_
              refine v_aload_n X dX8_readClause_62 rfl 4 rfl ?_
              refine v_iconst X dX8_readClause_63 (v := nI 1) (by decide) ?_
              refine v_roI1 X (rn_V X k_X8_readKnown ml_X8_245 dX8_readClause_64 (c_X8_readKnown_o l E k th tr wh g q (upN (upN (upN (upN z 7 sz) 8 sp1_36) 10 pl1_36) 12 f_36) nb1_36 (nI p_36) wd1_36 ev al wl gr7 cy bl kp nc cb na ns nu 1 (by first | assumption | omega) (by first | assumption | omega) (by decide)) rfl 0 rfl rfl (by decide) (by decide) (by omega) (by omega) (Nat.le_of_ble_eq_true rfl)) [0, 2, 3, 4, 5] rfl rfl ?_
              refine v_istore X dX8_readClause_67 (by decide) (lv' := [(6, .int (nI 0)), (5, .int (-1)), (4, .int (nI 1)), (3, .int (nI x_26)), (1, .long wd1_10), (0, .ref k)]) rfl ?_
              refine v_bipush X dX8_readClause_69 (v := (-2)) (by decide) ?_
              refine v_istore X dX8_readClause_71 (by decide) (lv' := [(7, .int (-2)), (6, .int (nI 0)), (5, .int (-1)), (4, .int (nI 1)), (3, .int (nI x_26)), (1, .long wd1_10), (0, .ref k)]) rfl ?_
              refine v_iload X dX8_readClause_73 2 rfl ?_
              refine v_iconst X dX8_readClause_75 (v := nI 1) (by decide) ?_
              refine v_icmp_le X dX8_readClause_76 (tgt := 110) (by decide) (fun h76 => ?_) (fun h76 => ?_)
              · refine v_aload_n X dX8_readClause_110 rfl 6 rfl ?_
                refine v_get X kcX8 fl_X8_75 dX8_readClause_111 0 rfl rfl ?_
                refine v_iconst X dX8_readClause_114 (v := nI 5) (by decide) ?_
                refine v_icmpN_ne X dX8_readClause_115 (tgt := 119) (by decide) (by decide) (by decide) (fun h115 => ?_) (fun h115 => ?_)
                · exfalso; omega
                · exact v_vret X Y dX8_readClause_118 (Or.inr ⟨f_36, p_36, pl1_36, sp1_36, wd1_36, nb1_36, (Or.inr (Or.inr ⟨h1_10, h2_10, by rw [hA_10, clause_e, hW_14 3 (cy 5), sb_k, hW_21, sb_k, show pnS tp sz kwd 1 0 (nm.1 + 1, vp_updL nm.2.1 nm.1 tk1_10.2.2.2, upN nm.2.2.1 nm.1 3, upN nm.2.2.2 nm.1 (cy 5)) tk1_21 = _ from (pn_new (by decide)).trans hW_26, sb_k, hW_36, sb_e]⟩)), rfl, rfl⟩) (by omega) (by omega)
              · exact absurd (by decide) h76
        · refine ⟨rfl, ?_⟩
          refine V.cast (st' := [.int (nI 0)]) (ws' := [ob k 8 [.int (nI th), .int (nI tr), .int wh, va_rf g, .ref gr7, .ref (q 5), .int (nI (z 6)), .int (nI sz), .int (nI sp1_21), .int (nI 5), .int (nI pl1_21), .int nb1_21, .int (nI f_26), .int (nI p_26), .long wd1_21, .ref (q 15), .ref (q 16), .ref (q 17), .ref (q 18), .int (nI (z 19)), .int (nI (z 20)), .ref (q 21), .long (lN ev), .ref (q 23), .ref (q 24), .int (nI (z 25)), .ref (q 26), .int al, .long wl, .int (nI (z 29))], aB E (q 5) 900 tp, ob gr7 7 [.int bl, .int (nI (cy 1)), .int (nI (cy 2)), .int (nI (cy 3)), .int (nI (cy 4)), .int (nI (cy 5)), .int (nI (cy 6)), .int (nI (cy 7)), .int (nI kp), .int (nI nc), .ref (cb 0), .ref (cb 1), .ref (cb 2), .ref (cb 3), .ref (cb 4), .ref (cb 5), .ref (cb 6), .ref (cb 7), .ref (cb 8), .ref (cb 9), .ref (cb 10), .ref (cb 11)], aL E (cb 9) 18 na, aN E (cb 10) 18 ns, aN E (cb 11) 18 nu, aN E (cb 0) 8 gm, aN E (cb 1) 8 gi, aN E (cb 2) 8 gf, aN E (cb 3) 8 go_, aI E (cb 4) 8 gt_]) rfl rfl rfl ?_
          refine v_istore_n X dX8_readClause_29 rfl (by decide) (lv' := [(3, .int (nI 0)), (1, .long wd1_10), (0, .ref k)]) rfl ?_
          refine v_aload_n X dX8_readClause_30 rfl 2 rfl ?_
          refine v_ldcS X dX8_readClause_31 (i := 10) (tx := "ink") (by decide) ?_
          refine v_iconst X dX8_readClause_33 (v := nI 1) (by decide) ?_
          refine v_bipush X dX8_readClause_34 (v := nI 40) (by decide) ?_
          refine v_roI1 X (rn_V X k_X8_readPart ml_X8_205 dX8_readClause_36 (c_X8_readPart_o l E k th tr wh g (some gr7) q (upN (upN (upN (upN z 7 sz) 8 sp1_21) 10 pl1_21) 12 f_26) nb1_21 (nI p_26) wd1_21 ev al wl 10 1 40 (by decide)) rfl 0 rfl rfl (by decide) (by decide) (by omega) (by omega) (Nat.le_of_ble_eq_true rfl)) [0] rfl rfl ?_
          refine v_istore X dX8_readClause_39 (by decide) (lv' := [(4, .int (nI 1)), (3, .int (nI 0)), (1, .long wd1_10), (0, .ref k)]) rfl ?_
          refine v_aload_n X dX8_readClause_41 rfl 3 rfl ?_
          refine v_roI1 X (rn_V X k_X8_formAtHand ml_X8_250 dX8_readClause_42 (c_X8_formAtHand_o l E k th tr wh g (some gr7) q (upN (upN (upN (upN z 7 sz) 8 sp1_21) 10 pl1_21) 12 f_26) nb1_21 (nI p_26) wd1_21 ev al wl ) rfl 0 rfl rfl (by decide) (by decide) (by omega) (by omega) (Nat.le_of_ble_eq_true rfl)) [0] rfl rfl ?_
          refine v_istore X dX8_readClause_45 (by decide) (lv' := [(5, .int (-1)), (4, .int (nI 1)), (3, .int (nI 0)), (1, .long wd1_10), (0, .ref k)]) rfl ?_
          refine v_iload X dX8_readClause_47 0 rfl ?_
          refine v_iconst X dX8_readClause_49 (v := (-1)) (by decide) ?_
          refine v_icmp_ne X dX8_readClause_50 (tgt := 58) (by decide) (fun h50 => ?_) (fun h50 => ?_)
          · exact absurd rfl h50
          · refine v_aload_n X dX8_readClause_53 rfl 4 rfl ?_
            refine v_iconst X dX8_readClause_54 (v := nI 1) (by decide) ?_
            refine v_roV1 X (rn_V X k_X8_flaw ml_X8_118 dX8_readClause_55 (c_X8_flaw_o l E k th tr wh g (some gr7) q (upN (upN (upN (upN z 7 sz) 8 sp1_21) 10 pl1_21) 12 f_26) nb1_21 (nI p_26) wd1_21 ev al wl 1 ) rfl 0 rfl rfl (by decide) (by decide) (by omega) (by omega) (Nat.le_of_ble_eq_true rfl)) [0] rfl rfl ?_
            refine v_aload_n X dX8_readClause_58 rfl 4 rfl ?_
            refine v_roV1 X (rn_V X k_X8_goesOn ml_X8_111 dX8_readClause_59 (c_X8_goesOn_o l E k th tr wh g (some gr7) q (upN (upN (upN (upN z 7 sz) 8 sp1_21) 10 pl1_21) 12 f_26) nb1_21 (nI p_26) wd1_21 ev al wl ) rfl 0 rfl rfl (by decide) (by decide) (by omega) (by omega) (Nat.le_of_ble_eq_true rfl)) [0] rfl rfl ?_
            refine v_aload_n X dX8_readClause_62 rfl 4 rfl ?_
            refine v_iconst X dX8_readClause_63 (v := nI 1) (by decide) ?_
            refine v_roI1 X (rn_V X k_X8_readKnown ml_X8_245 dX8_readClause_64 (c_X8_readKnown_o l E k th tr wh g q (upN (upN (upN (upN z 7 sz) 8 sp1_21) 10 pl1_21) 12 f_26) nb1_21 (nI p_26) wd1_21 ev al wl gr7 cy bl kp nc cb na ns nu 1 (by first | assumption | omega) (by first | assumption | omega) (by decide)) rfl 0 rfl rfl (by decide) (by decide) (by omega) (by omega) (Nat.le_of_ble_eq_true rfl)) [0, 2, 3, 4, 5] rfl rfl ?_
            refine v_istore X dX8_readClause_67 (by decide) (lv' := [(6, .int (nI 0)), (5, .int (-1)), (4, .int (nI 1)), (3, .int (nI 0)), (1, .long wd1_10), (0, .ref k)]) rfl ?_
            refine v_bipush X dX8_readClause_69 (v := (-2)) (by decide) ?_
            refine v_istore X dX8_readClause_71 (by decide) (lv' := [(7, .int (-2)), (6, .int (nI 0)), (5, .int (-1)), (4, .int (nI 1)), (3, .int (nI 0)), (1, .long wd1_10), (0, .ref k)]) rfl ?_
            refine v_iload X dX8_readClause_73 2 rfl ?_
            refine v_iconst X dX8_readClause_75 (v := nI 1) (by decide) ?_
            refine v_icmp_le X dX8_readClause_76 (tgt := 110) (by decide) (fun h76 => ?_) (fun h76 => ?_)
            · refine v_aload_n X dX8_readClause_110 rfl 6 rfl ?_
              refine v_get X kcX8 fl_X8_75 dX8_readClause_111 0 rfl rfl ?_
              refine v_iconst X dX8_readClause_114 (v := nI 5) (by decide) ?_
              refine v_icmpN_ne X dX8_readClause_115 (tgt := 119) (by decide) (by decide) (by decide) (fun h115 => ?_) (fun h115 => ?_)
              · exfalso; omega
              · exact v_vret X Y dX8_readClause_118 (Or.inr ⟨f_26, p_26, pl1_21, sp1_21, wd1_21, nb1_21, (Or.inr (Or.inr ⟨h1_10, h2_10, by rw [hA_10, clause_e, hW_14 3 (cy 5), sb_k, hW_21, sb_k, show pnS tp sz kwd 1 0 (nm.1 + 1, vp_updL nm.2.1 nm.1 tk1_10.2.2.2, upN nm.2.2.1 nm.1 3, upN nm.2.2.2 nm.1 (cy 5)) tk1_21 = _ from (pn_new (by decide)).trans hW_26, sb_e]⟩)), rfl, rfl⟩) (by omega) (by omega)
            · exact absurd (by decide) h76
      · refine ⟨rfl, ?_⟩
        refine V.cast (st' := []) (ws' := [ob k 8 [.int (nI th), .int (nI tr), .int wh, va_rf g, .ref gr7, .ref (q 5), .int (nI (z 6)), .int (nI sz), .int (nI sp1_14), .int (nI 5), .int (nI pl1_14), .int nb1_14, .int (nI 1), .int (nI p_21), .long wd1_14, .ref (q 15), .ref (q 16), .ref (q 17), .ref (q 18), .int (nI (z 19)), .int (nI (z 20)), .ref (q 21), .long (lN ev), .ref (q 23), .ref (q 24), .int (nI (z 25)), .ref (q 26), .int al, .long wl, .int (nI (z 29))], aB E (q 5) 900 tp, ob gr7 7 [.int bl, .int (nI (cy 1)), .int (nI (cy 2)), .int (nI (cy 3)), .int (nI (cy 4)), .int (nI (cy 5)), .int (nI (cy 6)), .int (nI (cy 7)), .int (nI kp), .int (nI nc), .ref (cb 0), .ref (cb 1), .ref (cb 2), .ref (cb 3), .ref (cb 4), .ref (cb 5), .ref (cb 6), .ref (cb 7), .ref (cb 8), .ref (cb 9), .ref (cb 10), .ref (cb 11)], aL E (cb 9) 18 na, aN E (cb 10) 18 ns, aN E (cb 11) 18 nu, aN E (cb 0) 8 gm, aN E (cb 1) 8 gi, aN E (cb 2) 8 gf, aN E (cb 3) 8 go_, aI E (cb 4) 8 gt_]) rfl rfl rfl ?_
        refine v_aload_n X dX8_readClause_24 rfl 1 rfl ?_
        refine v_iconst X dX8_readClause_25 (v := nI 0) (by decide) ?_
        refine v_roI1 X (rn_V X k_X8_readKnown ml_X8_245 dX8_readClause_26 (c_X8_readKnown_o l E k th tr wh g q (upN (upN (upN (upN z 7 sz) 8 sp1_14) 10 pl1_14) 12 1) nb1_14 (nI p_21) wd1_14 ev al wl gr7 cy bl kp nc cb na ns nu 0 (by first | assumption | omega) (by first | assumption | omega) (by decide)) rfl 0 rfl rfl (by decide) (by decide) (by omega) (by omega) (Nat.le_of_ble_eq_true rfl)) [0, 2, 3, 4, 5] rfl rfl ?_
        refine v_istore_n X dX8_readClause_29 rfl (by decide) (lv' := [(3, .int (nI 0)), (1, .long wd1_10), (0, .ref k)]) rfl ?_
        refine v_aload_n X dX8_readClause_30 rfl 2 rfl ?_
        refine v_ldcS X dX8_readClause_31 (i := 10) (tx := "ink") (by decide) ?_
        refine v_iconst X dX8_readClause_33 (v := nI 1) (by decide) ?_
        refine v_bipush X dX8_readClause_34 (v := nI 40) (by decide) ?_
        refine v_roI1 X (rn_V X k_X8_readPart ml_X8_205 dX8_readClause_36 (c_X8_readPart_o l E k th tr wh g (some gr7) q (upN (upN (upN (upN z 7 sz) 8 sp1_14) 10 pl1_14) 12 1) nb1_14 (nI p_21) wd1_14 ev al wl 10 1 40 (by decide)) rfl 0 rfl rfl (by decide) (by decide) (by omega) (by omega) (Nat.le_of_ble_eq_true rfl)) [0] rfl rfl ?_
        refine v_istore X dX8_readClause_39 (by decide) (lv' := [(4, .int (nI 1)), (3, .int (nI 0)), (1, .long wd1_10), (0, .ref k)]) rfl ?_
        refine v_aload_n X dX8_readClause_41 rfl 3 rfl ?_
        refine v_roI1 X (rn_V X k_X8_formAtHand ml_X8_250 dX8_readClause_42 (c_X8_formAtHand_o l E k th tr wh g (some gr7) q (upN (upN (upN (upN z 7 sz) 8 sp1_14) 10 pl1_14) 12 1) nb1_14 (nI p_21) wd1_14 ev al wl ) rfl 0 rfl rfl (by decide) (by decide) (by omega) (by omega) (Nat.le_of_ble_eq_true rfl)) [0] rfl rfl ?_
        refine v_istore X dX8_readClause_45 (by decide) (lv' := [(5, .int (-1)), (4, .int (nI 1)), (3, .int (nI 0)), (1, .long wd1_10), (0, .ref k)]) rfl ?_
        refine v_iload X dX8_readClause_47 0 rfl ?_
        refine v_iconst X dX8_readClause_49 (v := (-1)) (by decide) ?_
        refine v_icmp_ne X dX8_readClause_50 (tgt := 58) (by decide) (fun h50 => ?_) (fun h50 => ?_)
        · exact absurd rfl h50
        · refine v_aload_n X dX8_readClause_53 rfl 4 rfl ?_
          refine v_iconst X dX8_readClause_54 (v := nI 1) (by decide) ?_
          refine v_roV1 X (rn_V X k_X8_flaw ml_X8_118 dX8_readClause_55 (c_X8_flaw_o l E k th tr wh g (some gr7) q (upN (upN (upN (upN z 7 sz) 8 sp1_14) 10 pl1_14) 12 1) nb1_14 (nI p_21) wd1_14 ev al wl 1 ) rfl 0 rfl rfl (by decide) (by decide) (by omega) (by omega) (Nat.le_of_ble_eq_true rfl)) [0] rfl rfl ?_
          refine v_aload_n X dX8_readClause_58 rfl 4 rfl ?_
          refine v_roV1 X (rn_V X k_X8_goesOn ml_X8_111 dX8_readClause_59 (c_X8_goesOn_o l E k th tr wh g (some gr7) q (upN (upN (upN (upN z 7 sz) 8 sp1_14) 10 pl1_14) 12 1) nb1_14 (nI p_21) wd1_14 ev al wl ) rfl 0 rfl rfl (by decide) (by decide) (by omega) (by omega) (Nat.le_of_ble_eq_true rfl)) [0] rfl rfl ?_
          refine v_aload_n X dX8_readClause_62 rfl 4 rfl ?_
          refine v_iconst X dX8_readClause_63 (v := nI 1) (by decide) ?_
          refine v_roI1 X (rn_V X k_X8_readKnown ml_X8_245 dX8_readClause_64 (c_X8_readKnown_o l E k th tr wh g q (upN (upN (upN (upN z 7 sz) 8 sp1_14) 10 pl1_14) 12 1) nb1_14 (nI p_21) wd1_14 ev al wl gr7 cy bl kp nc cb na ns nu 1 (by first | assumption | omega) (by first | assumption | omega) (by decide)) rfl 0 rfl rfl (by decide) (by decide) (by omega) (by omega) (Nat.le_of_ble_eq_true rfl)) [0, 2, 3, 4, 5] rfl rfl ?_
          refine v_istore X dX8_readClause_67 (by decide) (lv' := [(6, .int (nI 0)), (5, .int (-1)), (4, .int (nI 1)), (3, .int (nI 0)), (1, .long wd1_10), (0, .ref k)]) rfl ?_
          refine v_bipush X dX8_readClause_69 (v := (-2)) (by decide) ?_
          refine v_istore X dX8_readClause_71 (by decide) (lv' := [(7, .int (-2)), (6, .int (nI 0)), (5, .int (-1)), (4, .int (nI 1)), (3, .int (nI 0)), (1, .long wd1_10), (0, .ref k)]) rfl ?_
          refine v_iload X dX8_readClause_73 2 rfl ?_
          refine v_iconst X dX8_readClause_75 (v := nI 1) (by decide) ?_
          refine v_icmp_le X dX8_readClause_76 (tgt := 110) (by decide) (fun h76 => ?_) (fun h76 => ?_)
          · refine v_aload_n X dX8_readClause_110 rfl 6 rfl ?_
            refine v_get X kcX8 fl_X8_75 dX8_readClause_111 0 rfl rfl ?_
            refine v_iconst X dX8_readClause_114 (v := nI 5) (by decide) ?_
            refine v_icmpN_ne X dX8_readClause_115 (tgt := 119) (by decide) (by decide) (by decide) (fun h115 => ?_) (fun h115 => ?_)
            · exfalso; omega
            · exact v_vret X Y dX8_readClause_118 (Or.inr ⟨1, p_21, pl1_14, sp1_14, wd1_14, nb1_14, (Or.inr (Or.inr ⟨h1_10, h2_10, by rw [hA_10, clause_e, hW_14 3 (cy 5), sb_k, hW_21, sb_e]⟩)), rfl, rfl⟩) (by omega) (by omega)
          · exact absurd (by decide) h76
    · refine ⟨rfl, ?_⟩
      refine V.cast (st' := [.long wd1_10]) (ws' := [ob k 8 [.int (nI th), .int (nI tr), .int wh, va_rf g, .ref gr7, .ref (q 5), .int (nI (z 6)), .int (nI sz), .int (nI sp1_10), .int (nI 5), .int (nI pl1_10), .int nb1_10, .int (nI f_14), .int (nI p_14), .long wd1_10, .ref (q 15), .ref (q 16), .ref (q 17), .ref (q 18), .int (nI (z 19)), .int (nI (z 20)), .ref (q 21), .long (lN ev), .ref (q 23), .ref (q 24), .int (nI (z 25)), .ref (q 26), .int al, .long wl, .int (nI (z 29))], aB E (q 5) 900 tp, ob gr7 7 [.int bl, .int (nI (cy 1)), .int (nI (cy 2)), .int (nI (cy 3)), .int (nI (cy 4)), .int (nI (cy 5)), .int (nI (cy 6)), .int (nI (cy 7)), .int (nI kp), .int (nI nc), .ref (cb 0), .ref (cb 1), .ref (cb 2), .ref (cb 3), .ref (cb 4), .ref (cb 5), .ref (cb 6), .ref (cb 7), .ref (cb 8), .ref (cb 9), .ref (cb 10), .ref (cb 11)], aL E (cb 9) 18 na, aN E (cb 10) 18 ns, aN E (cb 11) 18 nu, aN E (cb 0) 8 gm, aN E (cb 1) 8 gi, aN E (cb 2) 8 gf, aN E (cb 3) 8 go_, aI E (cb 4) 8 gt_]) rfl rfl rfl ?_
      refine v_lstore_n X dX8_readClause_17 rfl (by decide) (lv' := [(1, .long wd1_10), (0, .ref k)]) rfl ?_
      refine v_aload_n X dX8_readClause_18 rfl 1 rfl ?_
      refine v_ldcS X dX8_readClause_19 (i := 9) (tx := "on") (by decide) ?_
      refine v_roV1 X (rn_V X k_X8_needs ml_X8_122 dX8_readClause_21 (c_X8_needs_o l E k th tr wh g (some gr7) q (upN (upN (upN (upN z 7 sz) 8 sp1_10) 10 pl1_10) 12 f_14) nb1_10 (nI p_14) wd1_10 ev al wl 9 (by decide)) rfl 0 rfl rfl (by decide) (by decide) (by omega) (by omega) (Nat.le_of_ble_eq_true rfl)) [0] rfl rfl ?_
      refine v_aload_n X dX8_readClause_24 rfl 1 rfl ?_
      refine v_iconst X dX8_readClause_25 (v := nI 0) (by decide) ?_
      refine v_roI1 X (rn_V X k_X8_readKnown ml_X8_245 dX8_readClause_26 (c_X8_readKnown_o l E k th tr wh g q (upN (upN (upN (upN z 7 sz) 8 sp1_10) 10 pl1_10) 12 f_14) nb1_10 (nI p_14) wd1_10 ev al wl gr7 cy bl kp nc cb na ns nu 0 (by first | assumption | omega) (by first | assumption | omega) (by decide)) rfl 0 rfl rfl (by decide) (by decide) (by omega) (by omega) (Nat.le_of_ble_eq_true rfl)) [0, 2, 3, 4, 5] rfl rfl ?_
      refine v_istore_n X dX8_readClause_29 rfl (by decide) (lv' := [(3, .int (nI 0)), (1, .long wd1_10), (0, .ref k)]) rfl ?_
      refine v_aload_n X dX8_readClause_30 rfl 2 rfl ?_
      refine v_ldcS X dX8_readClause_31 (i := 10) (tx := "ink") (by decide) ?_
      refine v_iconst X dX8_readClause_33 (v := nI 1) (by decide) ?_
      refine v_bipush X dX8_readClause_34 (v := nI 40) (by decide) ?_
      refine v_roI1 X (rn_V X k_X8_readPart ml_X8_205 dX8_readClause_36 (c_X8_readPart_o l E k th tr wh g (some gr7) q (upN (upN (upN (upN z 7 sz) 8 sp1_10) 10 pl1_10) 12 f_14) nb1_10 (nI p_14) wd1_10 ev al wl 10 1 40 (by decide)) rfl 0 rfl rfl (by decide) (by decide) (by omega) (by omega) (Nat.le_of_ble_eq_true rfl)) [0] rfl rfl ?_
      refine v_istore X dX8_readClause_39 (by decide) (lv' := [(4, .int (nI 1)), (3, .int (nI 0)), (1, .long wd1_10), (0, .ref k)]) rfl ?_
      refine v_aload_n X dX8_readClause_41 rfl 3 rfl ?_
      refine v_roI1 X (rn_V X k_X8_formAtHand ml_X8_250 dX8_readClause_42 (c_X8_formAtHand_o l E k th tr wh g (some gr7) q (upN (upN (upN (upN z 7 sz) 8 sp1_10) 10 pl1_10) 12 f_14) nb1_10 (nI p_14) wd1_10 ev al wl ) rfl 0 rfl rfl (by decide) (by decide) (by omega) (by omega) (Nat.le_of_ble_eq_true rfl)) [0] rfl rfl ?_
      refine v_istore X dX8_readClause_45 (by decide) (lv' := [(5, .int (-1)), (4, .int (nI 1)), (3, .int (nI 0)), (1, .long wd1_10), (0, .ref k)]) rfl ?_
      refine v_iload X dX8_readClause_47 0 rfl ?_
      refine v_iconst X dX8_readClause_49 (v := (-1)) (by decide) ?_
      refine v_icmp_ne X dX8_readClause_50 (tgt := 58) (by decide) (fun h50 => ?_) (fun h50 => ?_)
      · exact absurd rfl h50
      · refine v_aload_n X dX8_readClause_53 rfl 4 rfl ?_
        refine v_iconst X dX8_readClause_54 (v := nI 1) (by decide) ?_
        refine v_roV1 X (rn_V X k_X8_flaw ml_X8_118 dX8_readClause_55 (c_X8_flaw_o l E k th tr wh g (some gr7) q (upN (upN (upN (upN z 7 sz) 8 sp1_10) 10 pl1_10) 12 f_14) nb1_10 (nI p_14) wd1_10 ev al wl 1 ) rfl 0 rfl rfl (by decide) (by decide) (by omega) (by omega) (Nat.le_of_ble_eq_true rfl)) [0] rfl rfl ?_
        refine v_aload_n X dX8_readClause_58 rfl 4 rfl ?_
        refine v_roV1 X (rn_V X k_X8_goesOn ml_X8_111 dX8_readClause_59 (c_X8_goesOn_o l E k th tr wh g (some gr7) q (upN (upN (upN (upN z 7 sz) 8 sp1_10) 10 pl1_10) 12 f_14) nb1_10 (nI p_14) wd1_10 ev al wl ) rfl 0 rfl rfl (by decide) (by decide) (by omega) (by omega) (Nat.le_of_ble_eq_true rfl)) [0] rfl rfl ?_
        refine v_aload_n X dX8_readClause_62 rfl 4 rfl ?_
        refine v_iconst X dX8_readClause_63 (v := nI 1) (by decide) ?_
        refine v_roI1 X (rn_V X k_X8_readKnown ml_X8_245 dX8_readClause_64 (c_X8_readKnown_o l E k th tr wh g q (upN (upN (upN (upN z 7 sz) 8 sp1_10) 10 pl1_10) 12 f_14) nb1_10 (nI p_14) wd1_10 ev al wl gr7 cy bl kp nc cb na ns nu 1 (by first | assumption | omega) (by first | assumption | omega) (by decide)) rfl 0 rfl rfl (by decide) (by decide) (by omega) (by omega) (Nat.le_of_ble_eq_true rfl)) [0, 2, 3, 4, 5] rfl rfl ?_
        refine v_istore X dX8_readClause_67 (by decide) (lv' := [(6, .int (nI 0)), (5, .int (-1)), (4, .int (nI 1)), (3, .int (nI 0)), (1, .long wd1_10), (0, .ref k)]) rfl ?_
        refine v_bipush X dX8_readClause_69 (v := (-2)) (by decide) ?_
        refine v_istore X dX8_readClause_71 (by decide) (lv' := [(7, .int (-2)), (6, .int (nI 0)), (5, .int (-1)), (4, .int (nI 1)), (3, .int (nI 0)), (1, .long wd1_10), (0, .ref k)]) rfl ?_
        refine v_iload X dX8_readClause_73 2 rfl ?_
        refine v_iconst X dX8_readClause_75 (v := nI 1) (by decide) ?_
        refine v_icmp_le X dX8_readClause_76 (tgt := 110) (by decide) (fun h76 => ?_) (fun h76 => ?_)
        · refine v_aload_n X dX8_readClause_110 rfl 6 rfl ?_
          refine v_get X kcX8 fl_X8_75 dX8_readClause_111 0 rfl rfl ?_
          refine v_iconst X dX8_readClause_114 (v := nI 5) (by decide) ?_
          refine v_icmpN_ne X dX8_readClause_115 (tgt := 119) (by decide) (by decide) (by decide) (fun h115 => ?_) (fun h115 => ?_)
          · exfalso; omega
          · exact v_vret X Y dX8_readClause_118 (Or.inr ⟨f_14, p_14, pl1_10, sp1_10, wd1_10, nb1_10, (Or.inr (Or.inr ⟨h1_10, h2_10, by rw [hA_10, clause_e, hW_14 3 (cy 5), sb_e]⟩)), rfl, rfl⟩) (by omega) (by omega)
        · exact absurd (by decide) h76
  · refine ⟨rfl, ?_⟩
    refine V.cast (st' := []) (ws' := [ob k 8 [.int (nI th), .int (nI tr), .int wh, va_rf g, .ref gr7, .ref (q 5), .int (nI (z 6)), .int (nI sz), .int (nI sp), .int (nI 5), .int (nI pl), .int nb, .int (nI 5), .int (nI pl), .long wd, .ref (q 15), .ref (q 16), .ref (q 17), .ref (q 18), .int (nI (z 19)), .int (nI (z 20)), .ref (q 21), .long (lN ev), .ref (q 23), .ref (q 24), .int (nI (z 25)), .ref (q 26), .int al, .long wl, .int (nI (z 29))], aB E (q 5) 900 tp, ob gr7 7 [.int bl, .int (nI (cy 1)), .int (nI (cy 2)), .int (nI (cy 3)), .int (nI (cy 4)), .int (nI (cy 5)), .int (nI (cy 6)), .int (nI (cy 7)), .int (nI kp), .int (nI nc), .ref (cb 0), .ref (cb 1), .ref (cb 2), .ref (cb 3), .ref (cb 4), .ref (cb 5), .ref (cb 6), .ref (cb 7), .ref (cb 8), .ref (cb 9), .ref (cb 10), .ref (cb 11)], aL E (cb 9) 18 na, aN E (cb 10) 18 ns, aN E (cb 11) 18 nu, aN E (cb 0) 8 gm, aN E (cb 1) 8 gi, aN E (cb 2) 8 gf, aN E (cb 3) 8 go_, aI E (cb 4) 8 gt_]) rfl rfl rfl ?_
    refine v_aload_n X dX8_readClause_13 rfl 0 rfl ?_
    refine v_roL1 X (rn_V X k_X8_readFresh ml_X8_221 dX8_readClause_14 (c_X8_readFresh_o l E k th tr wh g q (upN (upN (upN (upN z 7 sz) 8 sp) 10 pl) 12 5) nb (nI pl) wd ev al wl gr7 cy bl kp nc cb na (by first | assumption | omega)) rfl 0 rfl rfl (by decide) (by decide) (by omega) (by omega) (Nat.le_of_ble_eq_true rfl)) [0, 2, 3] rfl rfl ?_
    refine v_lstore_n X dX8_readClause_17 rfl (by decide) (lv' := [(1, .long wd), (0, .ref k)]) rfl ?_
    refine v_aload_n X dX8_readClause_18 rfl 1 rfl ?_
    refine v_ldcS X dX8_readClause_19 (i := 9) (tx := "on") (by decide) ?_
    refine v_roV1 X (rn_V X k_X8_needs ml_X8_122 dX8_readClause_21 (c_X8_needs_o l E k th tr wh g (some gr7) q (upN (upN (upN (upN z 7 sz) 8 sp) 10 pl) 12 5) nb (nI pl) wd ev al wl 9 (by decide)) rfl 0 rfl rfl (by decide) (by decide) (by omega) (by omega) (Nat.le_of_ble_eq_true rfl)) [0] rfl rfl ?_
    refine v_aload_n X dX8_readClause_24 rfl 1 rfl ?_
    refine v_iconst X dX8_readClause_25 (v := nI 0) (by decide) ?_
    refine v_roI1 X (rn_V X k_X8_readKnown ml_X8_245 dX8_readClause_26 (c_X8_readKnown_o l E k th tr wh g q (upN (upN (upN (upN z 7 sz) 8 sp) 10 pl) 12 5) nb (nI pl) wd ev al wl gr7 cy bl kp nc cb na ns nu 0 (by first | assumption | omega) (by first | assumption | omega) (by decide)) rfl 0 rfl rfl (by decide) (by decide) (by omega) (by omega) (Nat.le_of_ble_eq_true rfl)) [0, 2, 3, 4, 5] rfl rfl ?_
    refine v_istore_n X dX8_readClause_29 rfl (by decide) (lv' := [(3, .int (nI 0)), (1, .long wd), (0, .ref k)]) rfl ?_
    refine v_aload_n X dX8_readClause_30 rfl 2 rfl ?_
    refine v_ldcS X dX8_readClause_31 (i := 10) (tx := "ink") (by decide) ?_
    refine v_iconst X dX8_readClause_33 (v := nI 1) (by decide) ?_
    refine v_bipush X dX8_readClause_34 (v := nI 40) (by decide) ?_
    refine v_roI1 X (rn_V X k_X8_readPart ml_X8_205 dX8_readClause_36 (c_X8_readPart_o l E k th tr wh g (some gr7) q (upN (upN (upN (upN z 7 sz) 8 sp) 10 pl) 12 5) nb (nI pl) wd ev al wl 10 1 40 (by decide)) rfl 0 rfl rfl (by decide) (by decide) (by omega) (by omega) (Nat.le_of_ble_eq_true rfl)) [0] rfl rfl ?_
    refine v_istore X dX8_readClause_39 (by decide) (lv' := [(4, .int (nI 1)), (3, .int (nI 0)), (1, .long wd), (0, .ref k)]) rfl ?_
    refine v_aload_n X dX8_readClause_41 rfl 3 rfl ?_
    refine v_roI1 X (rn_V X k_X8_formAtHand ml_X8_250 dX8_readClause_42 (c_X8_formAtHand_o l E k th tr wh g (some gr7) q (upN (upN (upN (upN z 7 sz) 8 sp) 10 pl) 12 5) nb (nI pl) wd ev al wl ) rfl 0 rfl rfl (by decide) (by decide) (by omega) (by omega) (Nat.le_of_ble_eq_true rfl)) [0] rfl rfl ?_
    refine v_istore X dX8_readClause_45 (by decide) (lv' := [(5, .int (-1)), (4, .int (nI 1)), (3, .int (nI 0)), (1, .long wd), (0, .ref k)]) rfl ?_
    refine v_iload X dX8_readClause_47 0 rfl ?_
    refine v_iconst X dX8_readClause_49 (v := (-1)) (by decide) ?_
    refine v_icmp_ne X dX8_readClause_50 (tgt := 58) (by decide) (fun h50 => ?_) (fun h50 => ?_)
    · exact absurd rfl h50
    · refine v_aload_n X dX8_readClause_53 rfl 4 rfl ?_
      refine v_iconst X dX8_readClause_54 (v := nI 1) (by decide) ?_
      refine v_roV1 X (rn_V X k_X8_flaw ml_X8_118 dX8_readClause_55 (c_X8_flaw_o l E k th tr wh g (some gr7) q (upN (upN (upN (upN z 7 sz) 8 sp) 10 pl) 12 5) nb (nI pl) wd ev al wl 1 ) rfl 0 rfl rfl (by decide) (by decide) (by omega) (by omega) (Nat.le_of_ble_eq_true rfl)) [0] rfl rfl ?_
      refine v_aload_n X dX8_readClause_58 rfl 4 rfl ?_
      refine v_roV1 X (rn_V X k_X8_goesOn ml_X8_111 dX8_readClause_59 (c_X8_goesOn_o l E k th tr wh g (some gr7) q (upN (upN (upN (upN z 7 sz) 8 sp) 10 pl) 12 5) nb (nI pl) wd ev al wl ) rfl 0 rfl rfl (by decide) (by decide) (by omega) (by omega) (Nat.le_of_ble_eq_true rfl)) [0] rfl rfl ?_
      refine v_aload_n X dX8_readClause_62 rfl 4 rfl ?_
      refine v_iconst X dX8_readClause_63 (v := nI 1) (by decide) ?_
      refine v_roI1 X (rn_V X k_X8_readKnown ml_X8_245 dX8_readClause_64 (c_X8_readKnown_o l E k th tr wh g q (upN (upN (upN (upN z 7 sz) 8 sp) 10 pl) 12 5) nb (nI pl) wd ev al wl gr7 cy bl kp nc cb na ns nu 1 (by first | assumption | omega) (by first | assumption | omega) (by decide)) rfl 0 rfl rfl (by decide) (by decide) (by omega) (by omega) (Nat.le_of_ble_eq_true rfl)) [0, 2, 3, 4, 5] rfl rfl ?_
      refine v_istore X dX8_readClause_67 (by decide) (lv' := [(6, .int (nI 0)), (5, .int (-1)), (4, .int (nI 1)), (3, .int (nI 0)), (1, .long wd), (0, .ref k)]) rfl ?_
      refine v_bipush X dX8_readClause_69 (v := (-2)) (by decide) ?_
      refine v_istore X dX8_readClause_71 (by decide) (lv' := [(7, .int (-2)), (6, .int (nI 0)), (5, .int (-1)), (4, .int (nI 1)), (3, .int (nI 0)), (1, .long wd), (0, .ref k)]) rfl ?_
      refine v_iload X dX8_readClause_73 2 rfl ?_
      refine v_iconst X dX8_readClause_75 (v := nI 1) (by decide) ?_
      refine v_icmp_le X dX8_readClause_76 (tgt := 110) (by decide) (fun h76 => ?_) (fun h76 => ?_)
      · refine v_aload_n X dX8_readClause_110 rfl 6 rfl ?_
        refine v_get X kcX8 fl_X8_75 dX8_readClause_111 0 rfl rfl ?_
        refine v_iconst X dX8_readClause_114 (v := nI 5) (by decide) ?_
        refine v_icmpN_ne X dX8_readClause_115 (tgt := 119) (by decide) (by decide) (by decide) (fun h115 => ?_) (fun h115 => ?_)
        · exfalso; omega
        · exact v_vret X Y dX8_readClause_118 (Or.inr ⟨5, pl, pl, sp, wd, nb, (Or.inl ⟨h1_10, rfl, hT8.1⟩), rfl, rfl⟩) (by omega) (by omega)
      · exact absurd (by decide) h76
  · refine ⟨rfl, ?_⟩
    refine V.cast (st' := []) (ws' := [ob k 8 [.int (nI th), .int (nI tr), .int wh, va_rf g, .ref gr7, .ref (q 5), .int (nI (z 6)), .int (nI sz), .int (nI sp), .int (nI 5), .int (nI pl), .int nb, .int (nI 6), .int (nI pl), .long wd, .ref (q 15), .ref (q 16), .ref (q 17), .ref (q 18), .int (nI (z 19)), .int (nI (z 20)), .ref (q 21), .long (lN ev), .ref (q 23), .ref (q 24), .int (nI (z 25)), .ref (q 26), .int al, .long wl, .int (nI (z 29))], aB E (q 5) 900 tp, ob gr7 7 [.int bl, .int (nI (cy 1)), .int (nI (cy 2)), .int (nI (cy 3)), .int (nI (cy 4)), .int (nI (cy 5)), .int (nI (cy 6)), .int (nI (cy 7)), .int (nI kp), .int (nI nc), .ref (cb 0), .ref (cb 1), .ref (cb 2), .ref (cb 3), .ref (cb 4), .ref (cb 5), .ref (cb 6), .ref (cb 7), .ref (cb 8), .ref (cb 9), .ref (cb 10), .ref (cb 11)], aL E (cb 9) 18 na, aN E (cb 10) 18 ns, aN E (cb 11) 18 nu, aN E (cb 0) 8 gm, aN E (cb 1) 8 gi, aN E (cb 2) 8 gf, aN E (cb 3) 8 go_, aI E (cb 4) 8 gt_]) rfl rfl rfl ?_
    refine v_aload_n X dX8_readClause_13 rfl 0 rfl ?_
    refine v_roL1 X (rn_V X k_X8_readFresh ml_X8_221 dX8_readClause_14 (c_X8_readFresh_o l E k th tr wh g q (upN (upN (upN (upN z 7 sz) 8 sp) 10 pl) 12 6) nb (nI pl) wd ev al wl gr7 cy bl kp nc cb na (by first | assumption | omega)) rfl 0 rfl rfl (by decide) (by decide) (by omega) (by omega) (Nat.le_of_ble_eq_true rfl)) [0, 2, 3] rfl rfl ?_
    refine v_lstore_n X dX8_readClause_17 rfl (by decide) (lv' := [(1, .long wd), (0, .ref k)]) rfl ?_
    refine v_aload_n X dX8_readClause_18 rfl 1 rfl ?_
    refine v_ldcS X dX8_readClause_19 (i := 9) (tx := "on") (by decide) ?_
    refine v_roV1 X (rn_V X k_X8_needs ml_X8_122 dX8_readClause_21 (c_X8_needs_o l E k th tr wh g (some gr7) q (upN (upN (upN (upN z 7 sz) 8 sp) 10 pl) 12 6) nb (nI pl) wd ev al wl 9 (by decide)) rfl 0 rfl rfl (by decide) (by decide) (by omega) (by omega) (Nat.le_of_ble_eq_true rfl)) [0] rfl rfl ?_
    refine v_aload_n X dX8_readClause_24 rfl 1 rfl ?_
    refine v_iconst X dX8_readClause_25 (v := nI 0) (by decide) ?_
    refine v_roI1 X (rn_V X k_X8_readKnown ml_X8_245 dX8_readClause_26 (c_X8_readKnown_o l E k th tr wh g q (upN (upN (upN (upN z 7 sz) 8 sp) 10 pl) 12 6) nb (nI pl) wd ev al wl gr7 cy bl kp nc cb na ns nu 0 (by first | assumption | omega) (by first | assumption | omega) (by decide)) rfl 0 rfl rfl (by decide) (by decide) (by omega) (by omega) (Nat.le_of_ble_eq_true rfl)) [0, 2, 3, 4, 5] rfl rfl ?_
    refine v_istore_n X dX8_readClause_29 rfl (by decide) (lv' := [(3, .int (nI 0)), (1, .long wd), (0, .ref k)]) rfl ?_
    refine v_aload_n X dX8_readClause_30 rfl 2 rfl ?_
    refine v_ldcS X dX8_readClause_31 (i := 10) (tx := "ink") (by decide) ?_
    refine v_iconst X dX8_readClause_33 (v := nI 1) (by decide) ?_
    refine v_bipush X dX8_readClause_34 (v := nI 40) (by decide) ?_
    refine v_roI1 X (rn_V X k_X8_readPart ml_X8_205 dX8_readClause_36 (c_X8_readPart_o l E k th tr wh g (some gr7) q (upN (upN (upN (upN z 7 sz) 8 sp) 10 pl) 12 6) nb (nI pl) wd ev al wl 10 1 40 (by decide)) rfl 0 rfl rfl (by decide) (by decide) (by omega) (by omega) (Nat.le_of_ble_eq_true rfl)) [0] rfl rfl ?_
    refine v_istore X dX8_readClause_39 (by decide) (lv' := [(4, .int (nI 1)), (3, .int (nI 0)), (1, .long wd), (0, .ref k)]) rfl ?_
    refine v_aload_n X dX8_readClause_41 rfl 3 rfl ?_
    refine v_roI1 X (rn_V X k_X8_formAtHand ml_X8_250 dX8_readClause_42 (c_X8_formAtHand_o l E k th tr wh g (some gr7) q (upN (upN (upN (upN z 7 sz) 8 sp) 10 pl) 12 6) nb (nI pl) wd ev al wl ) rfl 0 rfl rfl (by decide) (by decide) (by omega) (by omega) (Nat.le_of_ble_eq_true rfl)) [0] rfl rfl ?_
    refine v_istore X dX8_readClause_45 (by decide) (lv' := [(5, .int (-1)), (4, .int (nI 1)), (3, .int (nI 0)), (1, .long wd), (0, .ref k)]) rfl ?_
    refine v_iload X dX8_readClause_47 0 rfl ?_
    refine v_iconst X dX8_readClause_49 (v := (-1)) (by decide) ?_
    refine v_icmp_ne X dX8_readClause_50 (tgt := 58) (by decide) (fun h50 => ?_) (fun h50 => ?_)
    · exact absurd rfl h50
    · refine v_aload_n X dX8_readClause_53 rfl 4 rfl ?_
      refine v_iconst X dX8_readClause_54 (v := nI 1) (by decide) ?_
      refine v_roV1 X (rn_V X k_X8_flaw ml_X8_118 dX8_readClause_55 (c_X8_flaw_o l E k th tr wh g (some gr7) q (upN (upN (upN (upN z 7 sz) 8 sp) 10 pl) 12 6) nb (nI pl) wd ev al wl 1 ) rfl 0 rfl rfl (by decide) (by decide) (by omega) (by omega) (Nat.le_of_ble_eq_true rfl)) [0] rfl rfl ?_
      refine v_aload_n X dX8_readClause_58 rfl 4 rfl ?_
      refine v_roV1 X (rn_V X k_X8_goesOn ml_X8_111 dX8_readClause_59 (c_X8_goesOn_o l E k th tr wh g (some gr7) q (upN (upN (upN (upN z 7 sz) 8 sp) 10 pl) 12 6) nb (nI pl) wd ev al wl ) rfl 0 rfl rfl (by decide) (by decide) (by omega) (by omega) (Nat.le_of_ble_eq_true rfl)) [0] rfl rfl ?_
      refine v_aload_n X dX8_readClause_62 rfl 4 rfl ?_
      refine v_iconst X dX8_readClause_63 (v := nI 1) (by decide) ?_
      refine v_roI1 X (rn_V X k_X8_readKnown ml_X8_245 dX8_readClause_64 (c_X8_readKnown_o l E k th tr wh g q (upN (upN (upN (upN z 7 sz) 8 sp) 10 pl) 12 6) nb (nI pl) wd ev al wl gr7 cy bl kp nc cb na ns nu 1 (by first | assumption | omega) (by first | assumption | omega) (by decide)) rfl 0 rfl rfl (by decide) (by decide) (by omega) (by omega) (Nat.le_of_ble_eq_true rfl)) [0, 2, 3, 4, 5] rfl rfl ?_
      refine v_istore X dX8_readClause_67 (by decide) (lv' := [(6, .int (nI 0)), (5, .int (-1)), (4, .int (nI 1)), (3, .int (nI 0)), (1, .long wd), (0, .ref k)]) rfl ?_
      refine v_bipush X dX8_readClause_69 (v := (-2)) (by decide) ?_
      refine v_istore X dX8_readClause_71 (by decide) (lv' := [(7, .int (-2)), (6, .int (nI 0)), (5, .int (-1)), (4, .int (nI 1)), (3, .int (nI 0)), (1, .long wd), (0, .ref k)]) rfl ?_
      refine v_iload X dX8_readClause_73 2 rfl ?_
      refine v_iconst X dX8_readClause_75 (v := nI 1) (by decide) ?_
      refine v_icmp_le X dX8_readClause_76 (tgt := 110) (by decide) (fun h76 => ?_) (fun h76 => ?_)
      · refine v_aload_n X dX8_readClause_110 rfl 6 rfl ?_
        refine v_get X kcX8 fl_X8_75 dX8_readClause_111 0 rfl rfl ?_
        refine v_iconst X dX8_readClause_114 (v := nI 5) (by decide) ?_
        refine v_icmpN_ne X dX8_readClause_115 (tgt := 119) (by decide) (by decide) (by decide) (fun h115 => ?_) (fun h115 => ?_)
        · exfalso; omega
        · exact v_vret X Y dX8_readClause_118 (Or.inr ⟨6, pl, pl, sp, wd, nb, (Or.inr (Or.inl ⟨h1_10, h2_10, rfl, hT8.1⟩)), rfl, rfl⟩) (by omega) (by omega)
      · exact absurd (by decide) h76
