theorem did_e {tp : Nat → Int32} {en : Nat} {kwd : Nat → Int64} {nm : Rnm} {k : Tk} : didF tp en kwd nm k = sb (pnS tp en kwd 1 0 nm k) fun m => sb (sb (wdS tp en 17 m.2) (whS tp en 0 40)) fun dy => sb (kbS tp en dy.2) fun kb => sb (setF tp en kwd nm kb.2) fun st => .inr (m.1, dy.1, kb.1, st.1, st.2) := by
  unfold didF
  cases pnS tp en kwd 1 0 nm k with
  | inl e => rfl
  | inr m => exact (sb_as _ _ _).symm
theorem kb_y {tp : Nat → Int32} {en : Nat} {k : Tk} (h : decide (k.1 = 1 ∧ k.2.2.2 = lN (pkS 27 18)) = true) : kbS tp en k = .inr (true, advK tp en k) := if_pos (of_decide_eq_true h)
theorem kb_n {tp : Nat → Int32} {en : Nat} {k : Tk} (h : decide (k.1 = 1 ∧ k.2.2.2 = lN (pkS 27 18)) = false) (h2 : decide (k.1 = 1 ∧ k.2.2.2 = lN (pkS 27 19)) = true) : kbS tp en k = .inr (false, advK tp en k) := (if_neg (of_decide_eq_false h)).trans (if_pos (of_decide_eq_true h2))
set_option maxRecDepth 100000 in
set_option maxHeartbeats 4000000 in
theorem c_X8_readDidL (l : Launch) (E : Et) (k : Nat) (th : Nat) (tr : Nat) (wh : Int32) (g : Option Nat) (q : Nat → Nat) (z : Nat → Nat) (nb : Int32) (wa : Int32) (wd : Int64) (ev : Nat) (al : Int32) (wl : Int64) (sz : Nat) (sp : Nat) (so : Nat) (pl : Nat) (tp : Nat → Int32) (tk : Tk) (kwd : Nat → Int64) (gr7 : Nat) (cy : Nat → Nat) (bl : Int32) (kp : Nat) (nc : Nat) (cb : Nat → Nat) (na : Nat → Int64) (ns : Nat → Nat) (nu : Nat → Nat) (nm : Rnm) (gdm : Nat → Nat) (gdd : Nat → Nat) (gds : Nat → Nat) (hkw : ∀ s, s < 6 → kwd s = lN (pkS 27 s)) (hT8 : T8 tk so pl sp wd nb) (htO : tkO sz tk) (hso : so ≤ 4) (hsz : sz ≤ 900) (hby : byT tp) (hNR : NR nm nc na ns nu) (hnc : nc ≤ 18) (hns : ∀ i, i < nc → ns i ≤ 4) (hs0 : ¬ so = 0) (hc7 : cy 7 ≤ 6) (hd6 : ∀ i, i < nm.1 → nm.2.2.1 i = 2 → nm.2.2.2 i < 6) : Ct l E yX8_readDid cX8_readDid 5 none 9 0 0 [.ref k] [ob k 8 [.int (nI th), .int (nI tr), .int wh, va_rf g, .ref gr7, .ref (q 5), .int (nI (z 6)), .int (nI sz), .int (nI sp), .int (nI so), .int (nI pl), .int nb, .int (nI (z 12)), .int wa, .long wd, .ref (q 15), .ref (q 16), .ref (q 17), .ref (q 18), .int (nI (z 19)), .int (nI (z 20)), .ref (q 21), .long (lN ev), .ref (q 23), .ref (q 24), .int (nI (z 25)), .ref (q 26), .int al, .long wl, .int (nI (z 29))], aB E (q 5) 900 tp, ob gr7 7 [.int bl, .int (nI (cy 1)), .int (nI (cy 2)), .int (nI (cy 3)), .int (nI (cy 4)), .int (nI (cy 5)), .int (nI (cy 6)), .int (nI (cy 7)), .int (nI kp), .int (nI nc), .ref (cb 0), .ref (cb 1), .ref (cb 2), .ref (cb 3), .ref (cb 4), .ref (cb 5), .ref (cb 6), .ref (cb 7), .ref (cb 8), .ref (cb 9), .ref (cb 10), .ref (cb 11)], aL E (cb 9) 18 na, aN E (cb 10) 18 ns, aN E (cb 11) 18 nu, aN E (cb 6) 6 gdm, aN E (cb 7) 6 gdd, aN E (cb 8) 6 gds] ((fun r w => (∃ (xm : Nat) (xd : Nat) (xk : Bool) (xs : Nat) (kp1 : Nat) (tk1 : Tk) (so1 : Nat) (pl1 : Nat) (sp1 : Nat) (wd1 : Int64) (nb1 : Int32), (¬ cy 7 = 6) ∧ (¬ bl = -1) ∧ (didF tp sz kwd nm (advK tp sz tk) = .inr (xm, xd, xk, xs, tk1)) ∧ (T8 tk1 so1 pl1 sp1 wd1 nb1) ∧ (tkO sz tk1) ∧ (so1 ≤ 4) ∧ (kp1 = if xk = true then kp ||| 2 ^ cy 7 else kp) ∧ w = [ob k 8 [.int (nI th), .int (nI tr), .int wh, va_rf g, .ref gr7, .ref (q 5), .int (nI (z 6)), .int (nI sz), .int (nI sp1), .int (nI so1), .int (nI pl1), .int nb1, .int (nI (z 12)), .int wa, .long wd1, .ref (q 15), .ref (q 16), .ref (q 17), .ref (q 18), .int (nI (z 19)), .int (nI (z 20)), .ref (q 21), .long (lN ev), .ref (q 23), .ref (q 24), .int (nI (z 25)), .ref (q 26), .int al, .long wl, .int (nI (z 29))], aB E (q 5) 900 tp, ob gr7 7 [.int bl, .int (nI (cy 1)), .int (nI (cy 2)), .int (nI (cy 3)), .int (nI (cy 4)), .int (nI (cy 5)), .int (nI (cy 6)), .int (nI (cy 7 + 1)), .int (nI kp1), .int (nI nc), .ref (cb 0), .ref (cb 1), .ref (cb 2), .ref (cb 3), .ref (cb 4), .ref (cb 5), .ref (cb 6), .ref (cb 7), .ref (cb 8), .ref (cb 9), .ref (cb 10), .ref (cb 11)], aL E (cb 9) 18 na, aN E (cb 10) 18 ns, aN E (cb 11) 18 nu, aN E (cb 6) 6 (upN gdm (cy 7) xm), aN E (cb 7) 6 (upN gdd (cy 7) xd), aN E (cb 8) 6 (upN gds (cy 7) xs)] ∧ r = none) ∨ (∃ (f : Nat) (p : Nat) (pl1 : Nat) (sp1 : Nat) (wd1 : Int64) (nb1 : Int32), ((cy 7 = 6 ∧ f = 5 ∧ p = tk.2.1) ∨ (¬ cy 7 = 6 ∧ bl = -1 ∧ f = 6 ∧ p = tk.2.1) ∨ (¬ cy 7 = 6 ∧ ¬ bl = -1 ∧ didF tp sz kwd nm (advK tp sz tk) = .inl (f, p))) ∧ w = [ob k 8 [.int (nI th), .int (nI tr), .int wh, va_rf g, .ref gr7, .ref (q 5), .int (nI (z 6)), .int (nI sz), .int (nI sp1), .int (nI 5), .int (nI pl1), .int nb1, .int (nI f), .int (nI p), .long wd1, .ref (q 15), .ref (q 16), .ref (q 17), .ref (q 18), .int (nI (z 19)), .int (nI (z 20)), .ref (q 21), .long (lN ev), .ref (q 23), .ref (q 24), .int (nI (z 25)), .ref (q 26), .int al, .long wl, .int (nI (z 29))], aB E (q 5) 900 tp, ob gr7 7 [.int bl, .int (nI (cy 1)), .int (nI (cy 2)), .int (nI (cy 3)), .int (nI (cy 4)), .int (nI (cy 5)), .int (nI (cy 6)), .int (nI (cy 7)), .int (nI kp), .int (nI nc), .ref (cb 0), .ref (cb 1), .ref (cb 2), .ref (cb 3), .ref (cb 4), .ref (cb 5), .ref (cb 6), .ref (cb 7), .ref (cb 8), .ref (cb 9), .ref (cb 10), .ref (cb 11)], aL E (cb 9) 18 na, aN E (cb 10) 18 ns, aN E (cb 11) 18 nu, aN E (cb 6) 6 gdm, aN E (cb 7) 6 gdd, aN E (cb 8) 6 gds] ∧ r = none))) := by
  refine Ct.intro (by decide +kernel) (Nat.le_of_ble_eq_true rfl) (lv := [(0, .ref k)]) rfl ?_
  intro Z X Y
  refine v_aload_n X dX8_readDid_0 rfl 0 rfl ?_
  refine v_aload_n X dX8_readDid_1 rfl 0 rfl ?_
  refine v_get X kcX8 fl_X8_142 dX8_readDid_2 0 rfl rfl ?_
  refine v_getN X kcX7 fl_X8_278 dX8_readDid_5 2 rfl rfl ?_
  refine v_bipush X dX8_readDid_8 (v := nI 6) (by decide) ?_
  refine v_wr X (rn_V X k_X8_lineBegins ml_X8_217 dX8_readDid_10 (c_X8_lineBeginsL l E k th tr wh g q z nb wa wd ev al wl sz sp so pl tp tk gr7 cy bl kp nc cb (cy 7) 6 (by first | assumption | omega) (by first | assumption | omega) (by first | assumption | omega) (by first | assumption | omega) (by first | assumption | omega) (by first | assumption | omega) (by omega) (by decide)) rfl 0 rfl rfl (by decide) (by decide) (by omega) (by omega) (Nat.le_of_ble_eq_true rfl)) [0, 1, 2] rfl rfl (fun r w1 hpo => ?_)
  rcases hpo with ⟨tk1_10, so1_10, pl1_10, sp1_10, wd1_10, nb1_10, h1_10, h2_10, hA_10, hT_10, hU_10, hS_10, rfl, rfl⟩ | ⟨h1_10, rfl, rfl⟩ | ⟨h1_10, h2_10, rfl, rfl⟩
  · refine ⟨rfl, ?_⟩
    refine V.cast (st' := []) (ws' := [ob k 8 [.int (nI th), .int (nI tr), .int wh, va_rf g, .ref gr7, .ref (q 5), .int (nI (z 6)), .int (nI sz), .int (nI sp1_10), .int (nI so1_10), .int (nI pl1_10), .int nb1_10, .int (nI (z 12)), .int wa, .long wd1_10, .ref (q 15), .ref (q 16), .ref (q 17), .ref (q 18), .int (nI (z 19)), .int (nI (z 20)), .ref (q 21), .long (lN ev), .ref (q 23), .ref (q 24), .int (nI (z 25)), .ref (q 26), .int al, .long wl, .int (nI (z 29))], aB E (q 5) 900 tp, ob gr7 7 [.int bl, .int (nI (cy 1)), .int (nI (cy 2)), .int (nI (cy 3)), .int (nI (cy 4)), .int (nI (cy 5)), .int (nI (cy 6)), .int (nI (cy 7)), .int (nI kp), .int (nI nc), .ref (cb 0), .ref (cb 1), .ref (cb 2), .ref (cb 3), .ref (cb 4), .ref (cb 5), .ref (cb 6), .ref (cb 7), .ref (cb 8), .ref (cb 9), .ref (cb 10), .ref (cb 11)], aL E (cb 9) 18 na, aN E (cb 10) 18 ns, aN E (cb 11) 18 nu, aN E (cb 6) 6 gdm, aN E (cb 7) 6 gdd, aN E (cb 8) 6 gds]) rfl rfl rfl ?_
    refine v_aload_n X dX8_readDid_13 rfl 0 rfl ?_
    refine v_iconst X dX8_readDid_14 (v := nI 0) (by decide) ?_
    refine v_wr X (rn_V X k_X8_readKnown ml_X8_245 dX8_readDid_15 (c_X8_readKnownL l E k th tr wh g q z nb1_10 wa wd1_10 ev al wl sz sp1_10 so1_10 pl1_10 tp tk1_10 kwd gr7 cy bl kp nc cb na ns nu nm 0 (by first | assumption | omega) (hT_10) (hU_10) (hS_10) (by first | assumption | omega) (by first | assumption | omega) (by first | assumption | omega) (by first | assumption | omega) (by first | assumption | omega) (by decide)) rfl 0 rfl rfl (by decide) (by decide) (by omega) (by omega) (Nat.le_of_ble_eq_true rfl)) [0, 1, 2, 3, 4, 5] rfl rfl (fun r w1 hpo => ?_)
    rcases hpo with ⟨x_15, tk1_15, so1_15, pl1_15, sp1_15, wd1_15, nb1_15, hW_15, hT_15, hU_15, hS_15, rfl, rfl⟩ | ⟨f_15, p_15, hW_15, rfl, rfl⟩
    · refine ⟨rfl, ?_⟩
      refine V.cast (st' := [.int (nI x_15)]) (ws' := [ob k 8 [.int (nI th), .int (nI tr), .int wh, va_rf g, .ref gr7, .ref (q 5), .int (nI (z 6)), .int (nI sz), .int (nI sp1_15), .int (nI so1_15), .int (nI pl1_15), .int nb1_15, .int (nI (z 12)), .int wa, .long wd1_15, .ref (q 15), .ref (q 16), .ref (q 17), .ref (q 18), .int (nI (z 19)), .int (nI (z 20)), .ref (q 21), .long (lN ev), .ref (q 23), .ref (q 24), .int (nI (z 25)), .ref (q 26), .int al, .long wl, .int (nI (z 29))], aB E (q 5) 900 tp, ob gr7 7 [.int bl, .int (nI (cy 1)), .int (nI (cy 2)), .int (nI (cy 3)), .int (nI (cy 4)), .int (nI (cy 5)), .int (nI (cy 6)), .int (nI (cy 7)), .int (nI kp), .int (nI nc), .ref (cb 0), .ref (cb 1), .ref (cb 2), .ref (cb 3), .ref (cb 4), .ref (cb 5), .ref (cb 6), .ref (cb 7), .ref (cb 8), .ref (cb 9), .ref (cb 10), .ref (cb 11)], aL E (cb 9) 18 na, aN E (cb 10) 18 ns, aN E (cb 11) 18 nu, aN E (cb 6) 6 gdm, aN E (cb 7) 6 gdd, aN E (cb 8) 6 gds]) rfl rfl rfl ?_
      refine v_istore_n X dX8_readDid_18 rfl (by decide) (lv' := [(1, .int (nI x_15)), (0, .ref k)]) rfl ?_
      refine v_aload_n X dX8_readDid_19 rfl 1 rfl ?_
      refine v_ldcSW X dX8_readDid_20 (i := 17) (tx := "day") (by decide) ?_
      refine v_iconst X dX8_readDid_23 (v := nI 0) (by decide) ?_
      refine v_bipush X dX8_readDid_24 (v := nI 40) (by decide) ?_
      refine v_wr X (rn_V X k_X8_readPart ml_X8_205 dX8_readDid_26 (c_X8_readPartL l E k th tr wh g (some gr7) q z nb1_15 wa wd1_15 ev al wl sz sp1_15 so1_15 pl1_15 tp tk1_15 17 0 40 (by decide) (hT_15) (hU_15) (hS_15) (by first | assumption | omega) (by first | assumption | omega) (by decide) (by decide)) rfl 0 rfl rfl (by decide) (by decide) (by omega) (by omega) (Nat.le_of_ble_eq_true rfl)) [0, 1] rfl rfl (fun r w1 hpo => ?_)
      rcases hpo with ⟨x_26, tk1_26, so1_26, pl1_26, sp1_26, wd1_26, nb1_26, hW_26, hT_26, hU_26, hS_26, hx1_26, hx2_26, rfl, rfl⟩ | ⟨f_26, p_26, pl1_26, sp1_26, wd1_26, nb1_26, hW_26, rfl, rfl⟩
      · refine ⟨rfl, ?_⟩
        refine V.cast (st' := [.int (nI x_26)]) (ws' := [ob k 8 [.int (nI th), .int (nI tr), .int wh, va_rf g, .ref gr7, .ref (q 5), .int (nI (z 6)), .int (nI sz), .int (nI sp1_26), .int (nI so1_26), .int (nI pl1_26), .int nb1_26, .int (nI (z 12)), .int wa, .long wd1_26, .ref (q 15), .ref (q 16), .ref (q 17), .ref (q 18), .int (nI (z 19)), .int (nI (z 20)), .ref (q 21), .long (lN ev), .ref (q 23), .ref (q 24), .int (nI (z 25)), .ref (q 26), .int al, .long wl, .int (nI (z 29))], aB E (q 5) 900 tp, ob gr7 7 [.int bl, .int (nI (cy 1)), .int (nI (cy 2)), .int (nI (cy 3)), .int (nI (cy 4)), .int (nI (cy 5)), .int (nI (cy 6)), .int (nI (cy 7)), .int (nI kp), .int (nI nc), .ref (cb 0), .ref (cb 1), .ref (cb 2), .ref (cb 3), .ref (cb 4), .ref (cb 5), .ref (cb 6), .ref (cb 7), .ref (cb 8), .ref (cb 9), .ref (cb 10), .ref (cb 11)], aL E (cb 9) 18 na, aN E (cb 10) 18 ns, aN E (cb 11) 18 nu, aN E (cb 6) 6 gdm, aN E (cb 7) 6 gdd, aN E (cb 8) 6 gds]) rfl rfl rfl ?_
        refine v_istore_n X dX8_readDid_29 rfl (by decide) (lv' := [(2, .int (nI x_26)), (1, .int (nI x_15)), (0, .ref k)]) rfl ?_
        refine v_aload_n X dX8_readDid_30 rfl 2 rfl ?_
        refine v_ldcSW X dX8_readDid_31 (i := 18) (tx := "kept") (by decide) ?_
        refine v_roI1 X (rn_V X k_X8_isWord ml_X8_114 dX8_readDid_34 (c_X8_isWord l E k th tr wh g (some gr7) q (upN (upN (upN z 7 sz) 8 sp1_26) 10 pl1_26) nb1_26 wa wd1_26 ev al wl so1_26 18 (by decide) (by omega)) rfl 0 rfl rfl (by decide) (by decide) (by omega) (by omega) (Nat.le_of_ble_eq_true rfl)) [0] rfl rfl ?_
        refine v_istore_n X dX8_readDid_37 rfl (by decide) (lv' := [(3, .int (nI (decide (so1_26 = 2 ∧ wd1_26 = lN (pkS 32 18))).toNat)), (2, .int (nI x_26)), (1, .int (nI x_15)), (0, .ref k)]) rfl ?_
        refine v_iload_n X dX8_readDid_38 rfl 0 rfl ?_
        refine v_ifB_ne X dX8_readDid_39 (tgt := 57) (by decide) (fun h39 => ?_) (fun h39 => ?_)
        · have hspe : sp1_26 = tk1_26.2.2.1 := t8_sp hT_26 (fun z => by have := (of_decide_eq_true h39).1; omega)
          refine v_aload_n X dX8_readDid_57 rfl 3 rfl ?_
          refine v_wr X (rn_V X k_X8_goesOn ml_X8_111 dX8_readDid_58 (c_X8_goesOnL l E k th tr wh g (some gr7) q z nb1_26 wa wd1_26 ev al wl sz sp1_26 so1_26 pl1_26 tp tk1_26.2.2.2 (hS_26) (by first | assumption | omega) (by rw [hspe]; exact hU_26.2.2.1) (by first | assumption | omega)) rfl 0 rfl rfl (by decide) (by decide) (by omega) (by omega) (Nat.le_of_ble_eq_true rfl)) [0, 1] rfl rfl (fun r w1 hpo => ?_)
          rcases hpo with ⟨so1_58, pl1_58, sp1_58, wd1_58, nb1_58, hT8_58, hs1_58, hs4_58, rfl, rfl⟩
          · refine ⟨rfl, ?_⟩
            refine V.cast (st' := []) (ws' := [ob k 8 [.int (nI th), .int (nI tr), .int wh, va_rf g, .ref gr7, .ref (q 5), .int (nI (z 6)), .int (nI sz), .int (nI sp1_58), .int (nI so1_58), .int (nI pl1_58), .int nb1_58, .int (nI (z 12)), .int wa, .long wd1_58, .ref (q 15), .ref (q 16), .ref (q 17), .ref (q 18), .int (nI (z 19)), .int (nI (z 20)), .ref (q 21), .long (lN ev), .ref (q 23), .ref (q 24), .int (nI (z 25)), .ref (q 26), .int al, .long wl, .int (nI (z 29))], aB E (q 5) 900 tp, ob gr7 7 [.int bl, .int (nI (cy 1)), .int (nI (cy 2)), .int (nI (cy 3)), .int (nI (cy 4)), .int (nI (cy 5)), .int (nI (cy 6)), .int (nI (cy 7)), .int (nI kp), .int (nI nc), .ref (cb 0), .ref (cb 1), .ref (cb 2), .ref (cb 3), .ref (cb 4), .ref (cb 5), .ref (cb 6), .ref (cb 7), .ref (cb 8), .ref (cb 9), .ref (cb 10), .ref (cb 11)], aL E (cb 9) 18 na, aN E (cb 10) 18 ns, aN E (cb 11) 18 nu, aN E (cb 6) 6 gdm, aN E (cb 7) 6 gdd, aN E (cb 8) 6 gds]) rfl rfl rfl ?_
            have hTg : T8 (advK tp sz tk1_26) so1_58 pl1_58 sp1_58 wd1_58 nb1_58 := by have h9 := hT8_58; rw [hspe] at h9; exact h9
            refine v_aload_n X dX8_readDid_61 rfl 3 rfl ?_
            refine v_wr X (rn_V X k_X8_readDeeds ml_X8_286 dX8_readDid_62 (c_X8_readDeedsL l E k th tr wh g q z nb1_58 wa wd1_58 ev al wl sz sp1_58 so1_58 pl1_58 tp (advK tp sz tk1_26) kwd gr7 cy bl kp nc cb na ns nu nm (by first | assumption | omega) (hTg) ((advK_ok hU_26).1) (hs4_58) (by first | assumption | omega) (by first | assumption | omega) (by first | assumption | omega) (by first | assumption | omega) (by first | assumption | omega) (by first | assumption | omega)) rfl 0 rfl rfl (by decide) (by decide) (by omega) (by omega) (Nat.le_of_ble_eq_true rfl)) [0, 1, 2, 3, 4, 5] rfl rfl (fun r w1 hpo => ?_)
            rcases hpo with ⟨x_62, tk1_62, so1_62, pl1_62, sp1_62, wd1_62, nb1_62, hW_62, hT_62, hU_62, hS_62, hx_62, rfl, rfl⟩ | ⟨x_62, f_62, p_62, pl1_62, sp1_62, wd1_62, nb1_62, hW_62, rfl, rfl⟩
            · refine ⟨rfl, ?_⟩
              refine V.cast (st' := [.int (nI x_62)]) (ws' := [ob k 8 [.int (nI th), .int (nI tr), .int wh, va_rf g, .ref gr7, .ref (q 5), .int (nI (z 6)), .int (nI sz), .int (nI sp1_62), .int (nI so1_62), .int (nI pl1_62), .int nb1_62, .int (nI (z 12)), .int wa, .long wd1_62, .ref (q 15), .ref (q 16), .ref (q 17), .ref (q 18), .int (nI (z 19)), .int (nI (z 20)), .ref (q 21), .long (lN ev), .ref (q 23), .ref (q 24), .int (nI (z 25)), .ref (q 26), .int al, .long wl, .int (nI (z 29))], aB E (q 5) 900 tp, ob gr7 7 [.int bl, .int (nI (cy 1)), .int (nI (cy 2)), .int (nI (cy 3)), .int (nI (cy 4)), .int (nI (cy 5)), .int (nI (cy 6)), .int (nI (cy 7)), .int (nI kp), .int (nI nc), .ref (cb 0), .ref (cb 1), .ref (cb 2), .ref (cb 3), .ref (cb 4), .ref (cb 5), .ref (cb 6), .ref (cb 7), .ref (cb 8), .ref (cb 9), .ref (cb 10), .ref (cb 11)], aL E (cb 9) 18 na, aN E (cb 10) 18 ns, aN E (cb 11) 18 nu, aN E (cb 6) 6 gdm, aN E (cb 7) 6 gdd, aN E (cb 8) 6 gds]) rfl rfl rfl ?_
              refine v_istore X dX8_readDid_65 (by decide) (lv' := [(4, .int (nI x_62)), (3, .int (nI (decide (so1_26 = 2 ∧ wd1_26 = lN (pkS 32 18))).toNat)), (2, .int (nI x_26)), (1, .int (nI x_15)), (0, .ref k)]) rfl ?_
              refine v_aload_n X dX8_readDid_67 rfl 4 rfl ?_
              refine v_get X kcX8 fl_X8_75 dX8_readDid_68 0 rfl rfl ?_
              refine v_iconst X dX8_readDid_71 (v := nI 5) (by decide) ?_
              refine v_icmpN_ne X dX8_readDid_72 (tgt := 76) (by decide) (by omega) (by decide) (fun h72 => ?_) (fun h72 => ?_)
              · refine v_aload_n X dX8_readDid_76 rfl 4 rfl ?_
                refine v_get X kcX8 fl_X8_142 dX8_readDid_77 0 rfl rfl ?_
                refine v_getN X kcX7 fl_X8_289 dX8_readDid_80 2 rfl rfl ?_
                refine v_aload_n X dX8_readDid_83 rfl 4 rfl ?_
                refine v_get X kcX8 fl_X8_142 dX8_readDid_84 0 rfl rfl ?_
                refine v_getN X kcX7 fl_X8_278 dX8_readDid_87 2 rfl rfl ?_
                refine v_iload_n X dX8_readDid_90 rfl 3 rfl ?_
                refine v_iast X dX8_readDid_91 6 rfl (by omega) (by decide) (ws' := [ob k 8 [.int (nI th), .int (nI tr), .int wh, va_rf g, .ref gr7, .ref (q 5), .int (nI (z 6)), .int (nI sz), .int (nI sp1_62), .int (nI so1_62), .int (nI pl1_62), .int nb1_62, .int (nI (z 12)), .int wa, .long wd1_62, .ref (q 15), .ref (q 16), .ref (q 17), .ref (q 18), .int (nI (z 19)), .int (nI (z 20)), .ref (q 21), .long (lN ev), .ref (q 23), .ref (q 24), .int (nI (z 25)), .ref (q 26), .int al, .long wl, .int (nI (z 29))], aB E (q 5) 900 tp, ob gr7 7 [.int bl, .int (nI (cy 1)), .int (nI (cy 2)), .int (nI (cy 3)), .int (nI (cy 4)), .int (nI (cy 5)), .int (nI (cy 6)), .int (nI (cy 7)), .int (nI kp), .int (nI nc), .ref (cb 0), .ref (cb 1), .ref (cb 2), .ref (cb 3), .ref (cb 4), .ref (cb 5), .ref (cb 6), .ref (cb 7), .ref (cb 8), .ref (cb 9), .ref (cb 10), .ref (cb 11)], aL E (cb 9) 18 na, aN E (cb 10) 18 ns, aN E (cb 11) 18 nu, aN E (cb 6) 6 (upN gdm (cy 7) x_15), aN E (cb 7) 6 gdd, aN E (cb 8) 6 gds]) (by rw [upd_nI]; rfl) ?_
                refine v_aload_n X dX8_readDid_92 rfl 4 rfl ?_
                refine v_get X kcX8 fl_X8_142 dX8_readDid_93 0 rfl rfl ?_
                refine v_getN X kcX7 fl_X8_292 dX8_readDid_96 2 rfl rfl ?_
                refine v_aload_n X dX8_readDid_99 rfl 4 rfl ?_
                refine v_get X kcX8 fl_X8_142 dX8_readDid_100 0 rfl rfl ?_
                refine v_getN X kcX7 fl_X8_278 dX8_readDid_103 2 rfl rfl ?_
                refine v_iload_n X dX8_readDid_106 rfl 2 rfl ?_
                refine v_iast X dX8_readDid_107 7 rfl (by omega) (by decide) (ws' := [ob k 8 [.int (nI th), .int (nI tr), .int wh, va_rf g, .ref gr7, .ref (q 5), .int (nI (z 6)), .int (nI sz), .int (nI sp1_62), .int (nI so1_62), .int (nI pl1_62), .int nb1_62, .int (nI (z 12)), .int wa, .long wd1_62, .ref (q 15), .ref (q 16), .ref (q 17), .ref (q 18), .int (nI (z 19)), .int (nI (z 20)), .ref (q 21), .long (lN ev), .ref (q 23), .ref (q 24), .int (nI (z 25)), .ref (q 26), .int al, .long wl, .int (nI (z 29))], aB E (q 5) 900 tp, ob gr7 7 [.int bl, .int (nI (cy 1)), .int (nI (cy 2)), .int (nI (cy 3)), .int (nI (cy 4)), .int (nI (cy 5)), .int (nI (cy 6)), .int (nI (cy 7)), .int (nI kp), .int (nI nc), .ref (cb 0), .ref (cb 1), .ref (cb 2), .ref (cb 3), .ref (cb 4), .ref (cb 5), .ref (cb 6), .ref (cb 7), .ref (cb 8), .ref (cb 9), .ref (cb 10), .ref (cb 11)], aL E (cb 9) 18 na, aN E (cb 10) 18 ns, aN E (cb 11) 18 nu, aN E (cb 6) 6 (upN gdm (cy 7) x_15), aN E (cb 7) 6 (upN gdd (cy 7) x_26), aN E (cb 8) 6 gds]) (by rw [upd_nI]; rfl) ?_
                refine v_aload_n X dX8_readDid_108 rfl 4 rfl ?_
                refine v_get X kcX8 fl_X8_142 dX8_readDid_109 0 rfl rfl ?_
                refine v_getN X kcX7 fl_X8_295 dX8_readDid_112 2 rfl rfl ?_
                refine v_aload_n X dX8_readDid_115 rfl 4 rfl ?_
                refine v_get X kcX8 fl_X8_142 dX8_readDid_116 0 rfl rfl ?_
                refine v_getN X kcX7 fl_X8_278 dX8_readDid_119 2 rfl rfl ?_
                refine v_iload X dX8_readDid_122 0 rfl ?_
                refine v_iast X dX8_readDid_124 8 rfl (by omega) (by decide) (ws' := [ob k 8 [.int (nI th), .int (nI tr), .int wh, va_rf g, .ref gr7, .ref (q 5), .int (nI (z 6)), .int (nI sz), .int (nI sp1_62), .int (nI so1_62), .int (nI pl1_62), .int nb1_62, .int (nI (z 12)), .int wa, .long wd1_62, .ref (q 15), .ref (q 16), .ref (q 17), .ref (q 18), .int (nI (z 19)), .int (nI (z 20)), .ref (q 21), .long (lN ev), .ref (q 23), .ref (q 24), .int (nI (z 25)), .ref (q 26), .int al, .long wl, .int (nI (z 29))], aB E (q 5) 900 tp, ob gr7 7 [.int bl, .int (nI (cy 1)), .int (nI (cy 2)), .int (nI (cy 3)), .int (nI (cy 4)), .int (nI (cy 5)), .int (nI (cy 6)), .int (nI (cy 7)), .int (nI kp), .int (nI nc), .ref (cb 0), .ref (cb 1), .ref (cb 2), .ref (cb 3), .ref (cb 4), .ref (cb 5), .ref (cb 6), .ref (cb 7), .ref (cb 8), .ref (cb 9), .ref (cb 10), .ref (cb 11)], aL E (cb 9) 18 na, aN E (cb 10) 18 ns, aN E (cb 11) 18 nu, aN E (cb 6) 6 (upN gdm (cy 7) x_15), aN E (cb 7) 6 (upN gdd (cy 7) x_26), aN E (cb 8) 6 (upN gds (cy 7) x_62)]) (by rw [upd_nI]; rfl) ?_
                refine v_aload_n X dX8_readDid_125 rfl 4 rfl ?_
                refine v_get X kcX8 fl_X8_142 dX8_readDid_126 0 rfl rfl ?_
                refine v_dup X dX8_readDid_129 rfl ?_
                refine v_getN X kcX7 fl_X8_297 dX8_readDid_130 2 rfl rfl ?_
                refine v_iload_n X dX8_readDid_133 rfl 1 rfl ?_
                refine v_ifB_eq X dX8_readDid_134 (tgt := 149) (by decide) (fun h134 => ?_) (fun h134 => ?_)
                · exact absurd (h39.symm.trans h134) (by decide)
                · refine v_iconst X dX8_readDid_137 (v := nI 1) (by decide) ?_
                  refine v_aload_n X dX8_readDid_138 rfl 4 rfl ?_
                  refine v_get X kcX8 fl_X8_142 dX8_readDid_139 0 rfl rfl ?_
                  refine v_getN X kcX7 fl_X8_278 dX8_readDid_142 2 rfl rfl ?_
                  refine v_ishl X dX8_readDid_145 ?_
                  refine v_eqi (x' := nI (2 ^ (cy 7))) (nI_shl1 (by omega)) ?_
                  refine v_goto X dX8_readDid_146 (tgt := 150) (by decide) ?_
                  refine v_ior X dX8_readDid_150 ?_
                  refine v_eqi (x' := nI (kp ||| (2 ^ (cy 7)))) (fa_or _ _) ?_
                  refine v_putN X kcX7 fl_X8_297 dX8_readDid_151 2 rfl (ws' := [ob k 8 [.int (nI th), .int (nI tr), .int wh, va_rf g, .ref gr7, .ref (q 5), .int (nI (z 6)), .int (nI sz), .int (nI sp1_62), .int (nI so1_62), .int (nI pl1_62), .int nb1_62, .int (nI (z 12)), .int wa, .long wd1_62, .ref (q 15), .ref (q 16), .ref (q 17), .ref (q 18), .int (nI (z 19)), .int (nI (z 20)), .ref (q 21), .long (lN ev), .ref (q 23), .ref (q 24), .int (nI (z 25)), .ref (q 26), .int al, .long wl, .int (nI (z 29))], aB E (q 5) 900 tp, ob gr7 7 [.int bl, .int (nI (cy 1)), .int (nI (cy 2)), .int (nI (cy 3)), .int (nI (cy 4)), .int (nI (cy 5)), .int (nI (cy 6)), .int (nI (cy 7)), .int (nI (kp ||| (2 ^ (cy 7)))), .int (nI nc), .ref (cb 0), .ref (cb 1), .ref (cb 2), .ref (cb 3), .ref (cb 4), .ref (cb 5), .ref (cb 6), .ref (cb 7), .ref (cb 8), .ref (cb 9), .ref (cb 10), .ref (cb 11)], aL E (cb 9) 18 na, aN E (cb 10) 18 ns, aN E (cb 11) 18 nu, aN E (cb 6) 6 (upN gdm (cy 7) x_15), aN E (cb 7) 6 (upN gdd (cy 7) x_26), aN E (cb 8) 6 (upN gds (cy 7) x_62)]) rfl rfl ?_
                  refine v_aload_n X dX8_readDid_154 rfl 4 rfl ?_
                  refine v_get X kcX8 fl_X8_142 dX8_readDid_155 0 rfl rfl ?_
                  refine v_dup X dX8_readDid_158 rfl ?_
                  refine v_getN X kcX7 fl_X8_278 dX8_readDid_159 2 rfl rfl ?_
                  refine v_iconst X dX8_readDid_162 (v := nI 1) (by decide) ?_
                  refine v_iadd X dX8_readDid_163 ?_
                  refine v_eqi (x' := nI ((cy 7) + 1)) (nI_add _ _) ?_
                  refine v_putN X kcX7 fl_X8_278 dX8_readDid_164 2 rfl (ws' := [ob k 8 [.int (nI th), .int (nI tr), .int wh, va_rf g, .ref gr7, .ref (q 5), .int (nI (z 6)), .int (nI sz), .int (nI sp1_62), .int (nI so1_62), .int (nI pl1_62), .int nb1_62, .int (nI (z 12)), .int wa, .long wd1_62, .ref (q 15), .ref (q 16), .ref (q 17), .ref (q 18), .int (nI (z 19)), .int (nI (z 20)), .ref (q 21), .long (lN ev), .ref (q 23), .ref (q 24), .int (nI (z 25)), .ref (q 26), .int al, .long wl, .int (nI (z 29))], aB E (q 5) 900 tp, ob gr7 7 [.int bl, .int (nI (cy 1)), .int (nI (cy 2)), .int (nI (cy 3)), .int (nI (cy 4)), .int (nI (cy 5)), .int (nI (cy 6)), .int (nI ((cy 7) + 1)), .int (nI (kp ||| (2 ^ (cy 7)))), .int (nI nc), .ref (cb 0), .ref (cb 1), .ref (cb 2), .ref (cb 3), .ref (cb 4), .ref (cb 5), .ref (cb 6), .ref (cb 7), .ref (cb 8), .ref (cb 9), .ref (cb 10), .ref (cb 11)], aL E (cb 9) 18 na, aN E (cb 10) 18 ns, aN E (cb 11) 18 nu, aN E (cb 6) 6 (upN gdm (cy 7) x_15), aN E (cb 7) 6 (upN gdd (cy 7) x_26), aN E (cb 8) 6 (upN gds (cy 7) x_62)]) rfl rfl ?_
                  exact v_vret X Y dX8_readDid_167 (Or.inl ⟨x_15, x_26, true, x_62, (kp ||| 2 ^ cy 7), tk1_62, so1_62, pl1_62, sp1_62, wd1_62, nb1_62, (h1_10), (h2_10), (by rw [hA_10, did_e, show pnS tp sz kwd 1 0 nm tk1_10 = _ from hW_15, sb_k, hW_26, sb_k, kb_y ((fo8 hT_26 (show 18 < 20 by decide)).symm.trans h39), sb_k, hW_62, sb_k]), (hT_62), (hU_62), (hS_62), ((if_pos rfl).symm), rfl, rfl⟩) (by omega) (by omega)
              · exfalso; omega
            · refine ⟨rfl, ?_⟩
              refine V.cast (st' := [.int (nI x_62)]) (ws' := [ob k 8 [.int (nI th), .int (nI tr), .int wh, va_rf g, .ref gr7, .ref (q 5), .int (nI (z 6)), .int (nI sz), .int (nI sp1_62), .int (nI 5), .int (nI pl1_62), .int nb1_62, .int (nI f_62), .int (nI p_62), .long wd1_62, .ref (q 15), .ref (q 16), .ref (q 17), .ref (q 18), .int (nI (z 19)), .int (nI (z 20)), .ref (q 21), .long (lN ev), .ref (q 23), .ref (q 24), .int (nI (z 25)), .ref (q 26), .int al, .long wl, .int (nI (z 29))], aB E (q 5) 900 tp, ob gr7 7 [.int bl, .int (nI (cy 1)), .int (nI (cy 2)), .int (nI (cy 3)), .int (nI (cy 4)), .int (nI (cy 5)), .int (nI (cy 6)), .int (nI (cy 7)), .int (nI kp), .int (nI nc), .ref (cb 0), .ref (cb 1), .ref (cb 2), .ref (cb 3), .ref (cb 4), .ref (cb 5), .ref (cb 6), .ref (cb 7), .ref (cb 8), .ref (cb 9), .ref (cb 10), .ref (cb 11)], aL E (cb 9) 18 na, aN E (cb 10) 18 ns, aN E (cb 11) 18 nu, aN E (cb 6) 6 gdm, aN E (cb 7) 6 gdd, aN E (cb 8) 6 gds]) rfl rfl rfl ?_
              refine v_istore X dX8_readDid_65 (by decide) (lv' := [(4, .int (nI x_62)), (3, .int (nI (decide (so1_26 = 2 ∧ wd1_26 = lN (pkS 32 18))).toNat)), (2, .int (nI x_26)), (1, .int (nI x_15)), (0, .ref k)]) rfl ?_
              refine v_aload_n X dX8_readDid_67 rfl 4 rfl ?_
              refine v_get X kcX8 fl_X8_75 dX8_readDid_68 0 rfl rfl ?_
              refine v_iconst X dX8_readDid_71 (v := nI 5) (by decide) ?_
              refine v_icmpN_ne X dX8_readDid_72 (tgt := 76) (by decide) (by decide) (by decide) (fun h72 => ?_) (fun h72 => ?_)
              · exfalso; omega
              · exact v_vret X Y dX8_readDid_75 (Or.inr ⟨f_62, p_62, pl1_62, sp1_62, wd1_62, nb1_62, (Or.inr (Or.inr ⟨h1_10, h2_10, by rw [hA_10, did_e, show pnS tp sz kwd 1 0 nm tk1_10 = _ from hW_15, sb_k, hW_26, sb_k, kb_y ((fo8 hT_26 (show 18 < 20 by decide)).symm.trans h39), sb_k, hW_62, sb_e]⟩)), rfl, rfl⟩) (by omega) (by omega)
        · refine v_aload_n X dX8_readDid_42 rfl 3 rfl ?_
          refine v_ldcSW X dX8_readDid_43 (i := 19) (tx := "breach") (by decide) ?_
          refine v_roI1 X (rn_V X k_X8_isWord ml_X8_114 dX8_readDid_46 (c_X8_isWord l E k th tr wh g (some gr7) q (upN (upN (upN z 7 sz) 8 sp1_26) 10 pl1_26) nb1_26 wa wd1_26 ev al wl so1_26 19 (by decide) (by omega)) rfl 0 rfl rfl (by decide) (by decide) (by omega) (by omega) (Nat.le_of_ble_eq_true rfl)) [0] rfl rfl ?_
          refine v_ifB_ne X dX8_readDid_49 (tgt := 57) (by decide) (fun h49 => ?_) (fun h49 => ?_)
          · have hspe : sp1_26 = tk1_26.2.2.1 := t8_sp hT_26 (fun z => by have := (of_decide_eq_true h49).1; omega)
            refine v_aload_n X dX8_readDid_57 rfl 3 rfl ?_
            refine v_wr X (rn_V X k_X8_goesOn ml_X8_111 dX8_readDid_58 (c_X8_goesOnL l E k th tr wh g (some gr7) q z nb1_26 wa wd1_26 ev al wl sz sp1_26 so1_26 pl1_26 tp tk1_26.2.2.2 (hS_26) (by first | assumption | omega) (by rw [hspe]; exact hU_26.2.2.1) (by first | assumption | omega)) rfl 0 rfl rfl (by decide) (by decide) (by omega) (by omega) (Nat.le_of_ble_eq_true rfl)) [0, 1] rfl rfl (fun r w1 hpo => ?_)
            rcases hpo with ⟨so1_58, pl1_58, sp1_58, wd1_58, nb1_58, hT8_58, hs1_58, hs4_58, rfl, rfl⟩
            · refine ⟨rfl, ?_⟩
              refine V.cast (st' := []) (ws' := [ob k 8 [.int (nI th), .int (nI tr), .int wh, va_rf g, .ref gr7, .ref (q 5), .int (nI (z 6)), .int (nI sz), .int (nI sp1_58), .int (nI so1_58), .int (nI pl1_58), .int nb1_58, .int (nI (z 12)), .int wa, .long wd1_58, .ref (q 15), .ref (q 16), .ref (q 17), .ref (q 18), .int (nI (z 19)), .int (nI (z 20)), .ref (q 21), .long (lN ev), .ref (q 23), .ref (q 24), .int (nI (z 25)), .ref (q 26), .int al, .long wl, .int (nI (z 29))], aB E (q 5) 900 tp, ob gr7 7 [.int bl, .int (nI (cy 1)), .int (nI (cy 2)), .int (nI (cy 3)), .int (nI (cy 4)), .int (nI (cy 5)), .int (nI (cy 6)), .int (nI (cy 7)), .int (nI kp), .int (nI nc), .ref (cb 0), .ref (cb 1), .ref (cb 2), .ref (cb 3), .ref (cb 4), .ref (cb 5), .ref (cb 6), .ref (cb 7), .ref (cb 8), .ref (cb 9), .ref (cb 10), .ref (cb 11)], aL E (cb 9) 18 na, aN E (cb 10) 18 ns, aN E (cb 11) 18 nu, aN E (cb 6) 6 gdm, aN E (cb 7) 6 gdd, aN E (cb 8) 6 gds]) rfl rfl rfl ?_
              have hTg : T8 (advK tp sz tk1_26) so1_58 pl1_58 sp1_58 wd1_58 nb1_58 := by have h9 := hT8_58; rw [hspe] at h9; exact h9
              refine v_aload_n X dX8_readDid_61 rfl 3 rfl ?_
              refine v_wr X (rn_V X k_X8_readDeeds ml_X8_286 dX8_readDid_62 (c_X8_readDeedsL l E k th tr wh g q z nb1_58 wa wd1_58 ev al wl sz sp1_58 so1_58 pl1_58 tp (advK tp sz tk1_26) kwd gr7 cy bl kp nc cb na ns nu nm (by first | assumption | omega) (hTg) ((advK_ok hU_26).1) (hs4_58) (by first | assumption | omega) (by first | assumption | omega) (by first | assumption | omega) (by first | assumption | omega) (by first | assumption | omega) (by first | assumption | omega)) rfl 0 rfl rfl (by decide) (by decide) (by omega) (by omega) (Nat.le_of_ble_eq_true rfl)) [0, 1, 2, 3, 4, 5] rfl rfl (fun r w1 hpo => ?_)
              rcases hpo with ⟨x_62, tk1_62, so1_62, pl1_62, sp1_62, wd1_62, nb1_62, hW_62, hT_62, hU_62, hS_62, hx_62, rfl, rfl⟩ | ⟨x_62, f_62, p_62, pl1_62, sp1_62, wd1_62, nb1_62, hW_62, rfl, rfl⟩
              · refine ⟨rfl, ?_⟩
                refine V.cast (st' := [.int (nI x_62)]) (ws' := [ob k 8 [.int (nI th), .int (nI tr), .int wh, va_rf g, .ref gr7, .ref (q 5), .int (nI (z 6)), .int (nI sz), .int (nI sp1_62), .int (nI so1_62), .int (nI pl1_62), .int nb1_62, .int (nI (z 12)), .int wa, .long wd1_62, .ref (q 15), .ref (q 16), .ref (q 17), .ref (q 18), .int (nI (z 19)), .int (nI (z 20)), .ref (q 21), .long (lN ev), .ref (q 23), .ref (q 24), .int (nI (z 25)), .ref (q 26), .int al, .long wl, .int (nI (z 29))], aB E (q 5) 900 tp, ob gr7 7 [.int bl, .int (nI (cy 1)), .int (nI (cy 2)), .int (nI (cy 3)), .int (nI (cy 4)), .int (nI (cy 5)), .int (nI (cy 6)), .int (nI (cy 7)), .int (nI kp), .int (nI nc), .ref (cb 0), .ref (cb 1), .ref (cb 2), .ref (cb 3), .ref (cb 4), .ref (cb 5), .ref (cb 6), .ref (cb 7), .ref (cb 8), .ref (cb 9), .ref (cb 10), .ref (cb 11)], aL E (cb 9) 18 na, aN E (cb 10) 18 ns, aN E (cb 11) 18 nu, aN E (cb 6) 6 gdm, aN E (cb 7) 6 gdd, aN E (cb 8) 6 gds]) rfl rfl rfl ?_
                refine v_istore X dX8_readDid_65 (by decide) (lv' := [(4, .int (nI x_62)), (3, .int (nI (decide (so1_26 = 2 ∧ wd1_26 = lN (pkS 32 18))).toNat)), (2, .int (nI x_26)), (1, .int (nI x_15)), (0, .ref k)]) rfl ?_
                refine v_aload_n X dX8_readDid_67 rfl 4 rfl ?_
                refine v_get X kcX8 fl_X8_75 dX8_readDid_68 0 rfl rfl ?_
                refine v_iconst X dX8_readDid_71 (v := nI 5) (by decide) ?_
                refine v_icmpN_ne X dX8_readDid_72 (tgt := 76) (by decide) (by omega) (by decide) (fun h72 => ?_) (fun h72 => ?_)
                · refine v_aload_n X dX8_readDid_76 rfl 4 rfl ?_
                  refine v_get X kcX8 fl_X8_142 dX8_readDid_77 0 rfl rfl ?_
                  refine v_getN X kcX7 fl_X8_289 dX8_readDid_80 2 rfl rfl ?_
                  refine v_aload_n X dX8_readDid_83 rfl 4 rfl ?_
                  refine v_get X kcX8 fl_X8_142 dX8_readDid_84 0 rfl rfl ?_
                  refine v_getN X kcX7 fl_X8_278 dX8_readDid_87 2 rfl rfl ?_
                  refine v_iload_n X dX8_readDid_90 rfl 3 rfl ?_
                  refine v_iast X dX8_readDid_91 6 rfl (by omega) (by decide) (ws' := [ob k 8 [.int (nI th), .int (nI tr), .int wh, va_rf g, .ref gr7, .ref (q 5), .int (nI (z 6)), .int (nI sz), .int (nI sp1_62), .int (nI so1_62), .int (nI pl1_62), .int nb1_62, .int (nI (z 12)), .int wa, .long wd1_62, .ref (q 15), .ref (q 16), .ref (q 17), .ref (q 18), .int (nI (z 19)), .int (nI (z 20)), .ref (q 21), .long (lN ev), .ref (q 23), .ref (q 24), .int (nI (z 25)), .ref (q 26), .int al, .long wl, .int (nI (z 29))], aB E (q 5) 900 tp, ob gr7 7 [.int bl, .int (nI (cy 1)), .int (nI (cy 2)), .int (nI (cy 3)), .int (nI (cy 4)), .int (nI (cy 5)), .int (nI (cy 6)), .int (nI (cy 7)), .int (nI kp), .int (nI nc), .ref (cb 0), .ref (cb 1), .ref (cb 2), .ref (cb 3), .ref (cb 4), .ref (cb 5), .ref (cb 6), .ref (cb 7), .ref (cb 8), .ref (cb 9), .ref (cb 10), .ref (cb 11)], aL E (cb 9) 18 na, aN E (cb 10) 18 ns, aN E (cb 11) 18 nu, aN E (cb 6) 6 (upN gdm (cy 7) x_15), aN E (cb 7) 6 gdd, aN E (cb 8) 6 gds]) (by rw [upd_nI]; rfl) ?_
                  refine v_aload_n X dX8_readDid_92 rfl 4 rfl ?_
                  refine v_get X kcX8 fl_X8_142 dX8_readDid_93 0 rfl rfl ?_
                  refine v_getN X kcX7 fl_X8_292 dX8_readDid_96 2 rfl rfl ?_
                  refine v_aload_n X dX8_readDid_99 rfl 4 rfl ?_
                  refine v_get X kcX8 fl_X8_142 dX8_readDid_100 0 rfl rfl ?_
                  refine v_getN X kcX7 fl_X8_278 dX8_readDid_103 2 rfl rfl ?_
                  refine v_iload_n X dX8_readDid_106 rfl 2 rfl ?_
                  refine v_iast X dX8_readDid_107 7 rfl (by omega) (by decide) (ws' := [ob k 8 [.int (nI th), .int (nI tr), .int wh, va_rf g, .ref gr7, .ref (q 5), .int (nI (z 6)), .int (nI sz), .int (nI sp1_62), .int (nI so1_62), .int (nI pl1_62), .int nb1_62, .int (nI (z 12)), .int wa, .long wd1_62, .ref (q 15), .ref (q 16), .ref (q 17), .ref (q 18), .int (nI (z 19)), .int (nI (z 20)), .ref (q 21), .long (lN ev), .ref (q 23), .ref (q 24), .int (nI (z 25)), .ref (q 26), .int al, .long wl, .int (nI (z 29))], aB E (q 5) 900 tp, ob gr7 7 [.int bl, .int (nI (cy 1)), .int (nI (cy 2)), .int (nI (cy 3)), .int (nI (cy 4)), .int (nI (cy 5)), .int (nI (cy 6)), .int (nI (cy 7)), .int (nI kp), .int (nI nc), .ref (cb 0), .ref (cb 1), .ref (cb 2), .ref (cb 3), .ref (cb 4), .ref (cb 5), .ref (cb 6), .ref (cb 7), .ref (cb 8), .ref (cb 9), .ref (cb 10), .ref (cb 11)], aL E (cb 9) 18 na, aN E (cb 10) 18 ns, aN E (cb 11) 18 nu, aN E (cb 6) 6 (upN gdm (cy 7) x_15), aN E (cb 7) 6 (upN gdd (cy 7) x_26), aN E (cb 8) 6 gds]) (by rw [upd_nI]; rfl) ?_
                  refine v_aload_n X dX8_readDid_108 rfl 4 rfl ?_
                  refine v_get X kcX8 fl_X8_142 dX8_readDid_109 0 rfl rfl ?_
                  refine v_getN X kcX7 fl_X8_295 dX8_readDid_112 2 rfl rfl ?_
                  refine v_aload_n X dX8_readDid_115 rfl 4 rfl ?_
                  refine v_get X kcX8 fl_X8_142 dX8_readDid_116 0 rfl rfl ?_
                  refine v_getN X kcX7 fl_X8_278 dX8_readDid_119 2 rfl rfl ?_
                  refine v_iload X dX8_readDid_122 0 rfl ?_
                  refine v_iast X dX8_readDid_124 8 rfl (by omega) (by decide) (ws' := [ob k 8 [.int (nI th), .int (nI tr), .int wh, va_rf g, .ref gr7, .ref (q 5), .int (nI (z 6)), .int (nI sz), .int (nI sp1_62), .int (nI so1_62), .int (nI pl1_62), .int nb1_62, .int (nI (z 12)), .int wa, .long wd1_62, .ref (q 15), .ref (q 16), .ref (q 17), .ref (q 18), .int (nI (z 19)), .int (nI (z 20)), .ref (q 21), .long (lN ev), .ref (q 23), .ref (q 24), .int (nI (z 25)), .ref (q 26), .int al, .long wl, .int (nI (z 29))], aB E (q 5) 900 tp, ob gr7 7 [.int bl, .int (nI (cy 1)), .int (nI (cy 2)), .int (nI (cy 3)), .int (nI (cy 4)), .int (nI (cy 5)), .int (nI (cy 6)), .int (nI (cy 7)), .int (nI kp), .int (nI nc), .ref (cb 0), .ref (cb 1), .ref (cb 2), .ref (cb 3), .ref (cb 4), .ref (cb 5), .ref (cb 6), .ref (cb 7), .ref (cb 8), .ref (cb 9), .ref (cb 10), .ref (cb 11)], aL E (cb 9) 18 na, aN E (cb 10) 18 ns, aN E (cb 11) 18 nu, aN E (cb 6) 6 (upN gdm (cy 7) x_15), aN E (cb 7) 6 (upN gdd (cy 7) x_26), aN E (cb 8) 6 (upN gds (cy 7) x_62)]) (by rw [upd_nI]; rfl) ?_
                  refine v_aload_n X dX8_readDid_125 rfl 4 rfl ?_
                  refine v_get X kcX8 fl_X8_142 dX8_readDid_126 0 rfl rfl ?_
                  refine v_dup X dX8_readDid_129 rfl ?_
                  refine v_getN X kcX7 fl_X8_297 dX8_readDid_130 2 rfl rfl ?_
                  refine v_iload_n X dX8_readDid_133 rfl 1 rfl ?_
                  refine v_ifB_eq X dX8_readDid_134 (tgt := 149) (by decide) (fun h134 => ?_) (fun h134 => ?_)
                  · refine v_iconst X dX8_readDid_149 (v := nI 0) (by decide) ?_
                    refine v_ior X dX8_readDid_150 ?_
                    refine v_eqi (x' := nI (kp ||| 0)) (fa_or _ _) ?_
                    refine v_putN X kcX7 fl_X8_297 dX8_readDid_151 2 rfl (ws' := [ob k 8 [.int (nI th), .int (nI tr), .int wh, va_rf g, .ref gr7, .ref (q 5), .int (nI (z 6)), .int (nI sz), .int (nI sp1_62), .int (nI so1_62), .int (nI pl1_62), .int nb1_62, .int (nI (z 12)), .int wa, .long wd1_62, .ref (q 15), .ref (q 16), .ref (q 17), .ref (q 18), .int (nI (z 19)), .int (nI (z 20)), .ref (q 21), .long (lN ev), .ref (q 23), .ref (q 24), .int (nI (z 25)), .ref (q 26), .int al, .long wl, .int (nI (z 29))], aB E (q 5) 900 tp, ob gr7 7 [.int bl, .int (nI (cy 1)), .int (nI (cy 2)), .int (nI (cy 3)), .int (nI (cy 4)), .int (nI (cy 5)), .int (nI (cy 6)), .int (nI (cy 7)), .int (nI (kp ||| 0)), .int (nI nc), .ref (cb 0), .ref (cb 1), .ref (cb 2), .ref (cb 3), .ref (cb 4), .ref (cb 5), .ref (cb 6), .ref (cb 7), .ref (cb 8), .ref (cb 9), .ref (cb 10), .ref (cb 11)], aL E (cb 9) 18 na, aN E (cb 10) 18 ns, aN E (cb 11) 18 nu, aN E (cb 6) 6 (upN gdm (cy 7) x_15), aN E (cb 7) 6 (upN gdd (cy 7) x_26), aN E (cb 8) 6 (upN gds (cy 7) x_62)]) rfl rfl ?_
                    refine v_aload_n X dX8_readDid_154 rfl 4 rfl ?_
                    refine v_get X kcX8 fl_X8_142 dX8_readDid_155 0 rfl rfl ?_
                    refine v_dup X dX8_readDid_158 rfl ?_
                    refine v_getN X kcX7 fl_X8_278 dX8_readDid_159 2 rfl rfl ?_
                    refine v_iconst X dX8_readDid_162 (v := nI 1) (by decide) ?_
                    refine v_iadd X dX8_readDid_163 ?_
                    refine v_eqi (x' := nI ((cy 7) + 1)) (nI_add _ _) ?_
                    refine v_putN X kcX7 fl_X8_278 dX8_readDid_164 2 rfl (ws' := [ob k 8 [.int (nI th), .int (nI tr), .int wh, va_rf g, .ref gr7, .ref (q 5), .int (nI (z 6)), .int (nI sz), .int (nI sp1_62), .int (nI so1_62), .int (nI pl1_62), .int nb1_62, .int (nI (z 12)), .int wa, .long wd1_62, .ref (q 15), .ref (q 16), .ref (q 17), .ref (q 18), .int (nI (z 19)), .int (nI (z 20)), .ref (q 21), .long (lN ev), .ref (q 23), .ref (q 24), .int (nI (z 25)), .ref (q 26), .int al, .long wl, .int (nI (z 29))], aB E (q 5) 900 tp, ob gr7 7 [.int bl, .int (nI (cy 1)), .int (nI (cy 2)), .int (nI (cy 3)), .int (nI (cy 4)), .int (nI (cy 5)), .int (nI (cy 6)), .int (nI ((cy 7) + 1)), .int (nI (kp ||| 0)), .int (nI nc), .ref (cb 0), .ref (cb 1), .ref (cb 2), .ref (cb 3), .ref (cb 4), .ref (cb 5), .ref (cb 6), .ref (cb 7), .ref (cb 8), .ref (cb 9), .ref (cb 10), .ref (cb 11)], aL E (cb 9) 18 na, aN E (cb 10) 18 ns, aN E (cb 11) 18 nu, aN E (cb 6) 6 (upN gdm (cy 7) x_15), aN E (cb 7) 6 (upN gdd (cy 7) x_26), aN E (cb 8) 6 (upN gds (cy 7) x_62)]) rfl rfl ?_
                    exact v_vret X Y dX8_readDid_167 (Or.inl ⟨x_15, x_26, false, x_62, (kp ||| 0), tk1_62, so1_62, pl1_62, sp1_62, wd1_62, nb1_62, (h1_10), (h2_10), (by rw [hA_10, did_e, show pnS tp sz kwd 1 0 nm tk1_10 = _ from hW_15, sb_k, hW_26, sb_k, kb_n ((fo8 hT_26 (show 18 < 20 by decide)).symm.trans h39) ((fo8 hT_26 (show 19 < 20 by decide)).symm.trans h49), sb_k, hW_62, sb_k]), (hT_62), (hU_62), (hS_62), ((Nat.or_zero kp).trans (if_neg (by decide)).symm), rfl, rfl⟩) (by omega) (by omega)
                  · exact absurd (h39.symm.trans h134) (by decide)
                · exfalso; omega
              · refine ⟨rfl, ?_⟩
                refine V.cast (st' := [.int (nI x_62)]) (ws' := [ob k 8 [.int (nI th), .int (nI tr), .int wh, va_rf g, .ref gr7, .ref (q 5), .int (nI (z 6)), .int (nI sz), .int (nI sp1_62), .int (nI 5), .int (nI pl1_62), .int nb1_62, .int (nI f_62), .int (nI p_62), .long wd1_62, .ref (q 15), .ref (q 16), .ref (q 17), .ref (q 18), .int (nI (z 19)), .int (nI (z 20)), .ref (q 21), .long (lN ev), .ref (q 23), .ref (q 24), .int (nI (z 25)), .ref (q 26), .int al, .long wl, .int (nI (z 29))], aB E (q 5) 900 tp, ob gr7 7 [.int bl, .int (nI (cy 1)), .int (nI (cy 2)), .int (nI (cy 3)), .int (nI (cy 4)), .int (nI (cy 5)), .int (nI (cy 6)), .int (nI (cy 7)), .int (nI kp), .int (nI nc), .ref (cb 0), .ref (cb 1), .ref (cb 2), .ref (cb 3), .ref (cb 4), .ref (cb 5), .ref (cb 6), .ref (cb 7), .ref (cb 8), .ref (cb 9), .ref (cb 10), .ref (cb 11)], aL E (cb 9) 18 na, aN E (cb 10) 18 ns, aN E (cb 11) 18 nu, aN E (cb 6) 6 gdm, aN E (cb 7) 6 gdd, aN E (cb 8) 6 gds]) rfl rfl rfl ?_
                refine v_istore X dX8_readDid_65 (by decide) (lv' := [(4, .int (nI x_62)), (3, .int (nI (decide (so1_26 = 2 ∧ wd1_26 = lN (pkS 32 18))).toNat)), (2, .int (nI x_26)), (1, .int (nI x_15)), (0, .ref k)]) rfl ?_
                refine v_aload_n X dX8_readDid_67 rfl 4 rfl ?_
                refine v_get X kcX8 fl_X8_75 dX8_readDid_68 0 rfl rfl ?_
                refine v_iconst X dX8_readDid_71 (v := nI 5) (by decide) ?_
                refine v_icmpN_ne X dX8_readDid_72 (tgt := 76) (by decide) (by decide) (by decide) (fun h72 => ?_) (fun h72 => ?_)
                · exfalso; omega
                · exact v_vret X Y dX8_readDid_75 (Or.inr ⟨f_62, p_62, pl1_62, sp1_62, wd1_62, nb1_62, (Or.inr (Or.inr ⟨h1_10, h2_10, by rw [hA_10, did_e, show pnS tp sz kwd 1 0 nm tk1_10 = _ from hW_15, sb_k, hW_26, sb_k, kb_n ((fo8 hT_26 (show 18 < 20 by decide)).symm.trans h39) ((fo8 hT_26 (show 19 < 20 by decide)).symm.trans h49), sb_k, hW_62, sb_e]⟩)), rfl, rfl⟩) (by omega) (by omega)
          · refine v_aload_n X dX8_readDid_52 rfl 3 rfl ?_
            refine v_iconst X dX8_readDid_53 (v := nI 1) (by decide) ?_
            refine v_wrV1 X (rn_V X k_X8_flaw ml_X8_118 dX8_readDid_54 (c_X8_flaw l E k th tr wh g (some gr7) q (upN (upN z 7 sz) 8 sp1_26) nb1_26 wa wd1_26 ev al wl so1_26 pl1_26 1 (hS_26)) rfl 0 rfl rfl (by decide) (by decide) (by omega) (by omega) (Nat.le_of_ble_eq_true rfl)) [0] rfl rfl (ws' := [ob k 8 [.int (nI th), .int (nI tr), .int wh, va_rf g, .ref gr7, .ref (q 5), .int (nI (z 6)), .int (nI sz), .int (nI sp1_26), .int (nI 5), .int (nI pl1_26), .int nb1_26, .int (nI 1), .int (nI pl1_26), .long wd1_26, .ref (q 15), .ref (q 16), .ref (q 17), .ref (q 18), .int (nI (z 19)), .int (nI (z 20)), .ref (q 21), .long (lN ev), .ref (q 23), .ref (q 24), .int (nI (z 25)), .ref (q 26), .int al, .long wl, .int (nI (z 29))], aB E (q 5) 900 tp, ob gr7 7 [.int bl, .int (nI (cy 1)), .int (nI (cy 2)), .int (nI (cy 3)), .int (nI (cy 4)), .int (nI (cy 5)), .int (nI (cy 6)), .int (nI (cy 7)), .int (nI kp), .int (nI nc), .ref (cb 0), .ref (cb 1), .ref (cb 2), .ref (cb 3), .ref (cb 4), .ref (cb 5), .ref (cb 6), .ref (cb 7), .ref (cb 8), .ref (cb 9), .ref (cb 10), .ref (cb 11)], aL E (cb 9) 18 na, aN E (cb 10) 18 ns, aN E (cb 11) 18 nu, aN E (cb 6) 6 gdm, aN E (cb 7) 6 gdd, aN E (cb 8) 6 gds]) rfl rfl ?_
            refine v_aload_n X dX8_readDid_57 rfl 3 rfl ?_
            refine v_roV1 X (rn_V X k_X8_goesOn ml_X8_111 dX8_readDid_58 (c_X8_goesOn_o l E k th tr wh g (some gr7) q (upN (upN (upN (upN z 7 sz) 8 sp1_26) 10 pl1_26) 12 1) nb1_26 (nI pl1_26) wd1_26 ev al wl ) rfl 0 rfl rfl (by decide) (by decide) (by omega) (by omega) (Nat.le_of_ble_eq_true rfl)) [0] rfl rfl ?_
            refine v_aload_n X dX8_readDid_61 rfl 3 rfl ?_
            refine v_roI1 X (rn_V X k_X8_readDeeds ml_X8_286 dX8_readDid_62 (c_X8_readDeeds_o l E k th tr wh g (some gr7) q (upN (upN (upN (upN z 7 sz) 8 sp1_26) 10 pl1_26) 12 1) nb1_26 (nI pl1_26) wd1_26 ev al wl ) rfl 0 rfl rfl (by decide) (by decide) (by omega) (by omega) (Nat.le_of_ble_eq_true rfl)) [0] rfl rfl ?_
            refine v_istore X dX8_readDid_65 (by decide) (lv' := [(4, .int (nI 0)), (3, .int (nI (decide (so1_26 = 2 ∧ wd1_26 = lN (pkS 32 18))).toNat)), (2, .int (nI x_26)), (1, .int (nI x_15)), (0, .ref k)]) rfl ?_
            refine v_aload_n X dX8_readDid_67 rfl 4 rfl ?_
            refine v_get X kcX8 fl_X8_75 dX8_readDid_68 0 rfl rfl ?_
            refine v_iconst X dX8_readDid_71 (v := nI 5) (by decide) ?_
            refine v_icmpN_ne X dX8_readDid_72 (tgt := 76) (by decide) (by decide) (by decide) (fun h72 => ?_) (fun h72 => ?_)
            · exfalso; omega
            · exact v_vret X Y dX8_readDid_75 (Or.inr ⟨1, pl1_26, pl1_26, sp1_26, wd1_26, nb1_26, (Or.inr (Or.inr ⟨h1_10, h2_10, by rw [hA_10, did_e, show pnS tp sz kwd 1 0 nm tk1_10 = _ from hW_15, sb_k, hW_26, sb_k, kb_0 ((fo8 hT_26 (show 18 < 20 by decide)).symm.trans h39) ((fo8 hT_26 (show 19 < 20 by decide)).symm.trans h49), sb_e]; exact congrArg (fun z => (Sum.inl (1, z) : Rx _)) hT_26.1.symm⟩)), rfl, rfl⟩) (by omega) (by omega)
      · refine ⟨rfl, ?_⟩
        refine V.cast (st' := [.int (nI 0)]) (ws' := [ob k 8 [.int (nI th), .int (nI tr), .int wh, va_rf g, .ref gr7, .ref (q 5), .int (nI (z 6)), .int (nI sz), .int (nI sp1_26), .int (nI 5), .int (nI pl1_26), .int nb1_26, .int (nI f_26), .int (nI p_26), .long wd1_26, .ref (q 15), .ref (q 16), .ref (q 17), .ref (q 18), .int (nI (z 19)), .int (nI (z 20)), .ref (q 21), .long (lN ev), .ref (q 23), .ref (q 24), .int (nI (z 25)), .ref (q 26), .int al, .long wl, .int (nI (z 29))], aB E (q 5) 900 tp, ob gr7 7 [.int bl, .int (nI (cy 1)), .int (nI (cy 2)), .int (nI (cy 3)), .int (nI (cy 4)), .int (nI (cy 5)), .int (nI (cy 6)), .int (nI (cy 7)), .int (nI kp), .int (nI nc), .ref (cb 0), .ref (cb 1), .ref (cb 2), .ref (cb 3), .ref (cb 4), .ref (cb 5), .ref (cb 6), .ref (cb 7), .ref (cb 8), .ref (cb 9), .ref (cb 10), .ref (cb 11)], aL E (cb 9) 18 na, aN E (cb 10) 18 ns, aN E (cb 11) 18 nu, aN E (cb 6) 6 gdm, aN E (cb 7) 6 gdd, aN E (cb 8) 6 gds]) rfl rfl rfl ?_
        refine v_istore_n X dX8_readDid_29 rfl (by decide) (lv' := [(2, .int (nI 0)), (1, .int (nI x_15)), (0, .ref k)]) rfl ?_
        refine v_aload_n X dX8_readDid_30 rfl 2 rfl ?_
        refine v_ldcSW X dX8_readDid_31 (i := 18) (tx := "kept") (by decide) ?_
        refine v_roI1 X (rn_V X k_X8_isWord ml_X8_114 dX8_readDid_34 (c_X8_isWord l E k th tr wh g (some gr7) q (upN (upN (upN (upN z 7 sz) 8 sp1_26) 10 pl1_26) 12 f_26) nb1_26 (nI p_26) wd1_26 ev al wl 5 18 (by decide) (by omega)) rfl 0 rfl rfl (by decide) (by decide) (by omega) (by omega) (Nat.le_of_ble_eq_true rfl)) [0] rfl rfl ?_
        refine v_istore_n X dX8_readDid_37 rfl (by decide) (lv' := [(3, .int (nI (decide (5 = 2 ∧ wd1_26 = lN (pkS 32 18))).toNat)), (2, .int (nI 0)), (1, .int (nI x_15)), (0, .ref k)]) rfl ?_
        refine v_iload_n X dX8_readDid_38 rfl 0 rfl ?_
        refine v_ifB_ne X dX8_readDid_39 (tgt := 57) (by decide) (fun h39 => ?_) (fun h39 => ?_)
        · exact absurd (of_decide_eq_true h39).1 (by decide)
        · refine v_aload_n X dX8_readDid_42 rfl 3 rfl ?_
          refine v_ldcSW X dX8_readDid_43 (i := 19) (tx := "breach") (by decide) ?_
          refine v_roI1 X (rn_V X k_X8_isWord ml_X8_114 dX8_readDid_46 (c_X8_isWord l E k th tr wh g (some gr7) q (upN (upN (upN (upN z 7 sz) 8 sp1_26) 10 pl1_26) 12 f_26) nb1_26 (nI p_26) wd1_26 ev al wl 5 19 (by decide) (by omega)) rfl 0 rfl rfl (by decide) (by decide) (by omega) (by omega) (Nat.le_of_ble_eq_true rfl)) [0] rfl rfl ?_
          refine v_ifB_ne X dX8_readDid_49 (tgt := 57) (by decide) (fun h49 => ?_) (fun h49 => ?_)
          · exact absurd (of_decide_eq_true h49).1 (by decide)
          · refine v_aload_n X dX8_readDid_52 rfl 3 rfl ?_
            refine v_iconst X dX8_readDid_53 (v := nI 1) (by decide) ?_
            refine v_roV1 X (rn_V X k_X8_flaw ml_X8_118 dX8_readDid_54 (c_X8_flaw_o l E k th tr wh g (some gr7) q (upN (upN (upN (upN z 7 sz) 8 sp1_26) 10 pl1_26) 12 f_26) nb1_26 (nI p_26) wd1_26 ev al wl 1 ) rfl 0 rfl rfl (by decide) (by decide) (by omega) (by omega) (Nat.le_of_ble_eq_true rfl)) [0] rfl rfl ?_
            refine v_aload_n X dX8_readDid_57 rfl 3 rfl ?_
            refine v_roV1 X (rn_V X k_X8_goesOn ml_X8_111 dX8_readDid_58 (c_X8_goesOn_o l E k th tr wh g (some gr7) q (upN (upN (upN (upN z 7 sz) 8 sp1_26) 10 pl1_26) 12 f_26) nb1_26 (nI p_26) wd1_26 ev al wl ) rfl 0 rfl rfl (by decide) (by decide) (by omega) (by omega) (Nat.le_of_ble_eq_true rfl)) [0] rfl rfl ?_
            refine v_aload_n X dX8_readDid_61 rfl 3 rfl ?_
            refine v_roI1 X (rn_V X k_X8_readDeeds ml_X8_286 dX8_readDid_62 (c_X8_readDeeds_o l E k th tr wh g (some gr7) q (upN (upN (upN (upN z 7 sz) 8 sp1_26) 10 pl1_26) 12 f_26) nb1_26 (nI p_26) wd1_26 ev al wl ) rfl 0 rfl rfl (by decide) (by decide) (by omega) (by omega) (Nat.le_of_ble_eq_true rfl)) [0] rfl rfl ?_
            refine v_istore X dX8_readDid_65 (by decide) (lv' := [(4, .int (nI 0)), (3, .int (nI (decide (5 = 2 ∧ wd1_26 = lN (pkS 32 18))).toNat)), (2, .int (nI 0)), (1, .int (nI x_15)), (0, .ref k)]) rfl ?_
            refine v_aload_n X dX8_readDid_67 rfl 4 rfl ?_
            refine v_get X kcX8 fl_X8_75 dX8_readDid_68 0 rfl rfl ?_
            refine v_iconst X dX8_readDid_71 (v := nI 5) (by decide) ?_
            refine v_icmpN_ne X dX8_readDid_72 (tgt := 76) (by decide) (by decide) (by decide) (fun h72 => ?_) (fun h72 => ?_)
            · exfalso; omega
            · exact v_vret X Y dX8_readDid_75 (Or.inr ⟨f_26, p_26, pl1_26, sp1_26, wd1_26, nb1_26, (Or.inr (Or.inr ⟨h1_10, h2_10, by rw [hA_10, did_e, show pnS tp sz kwd 1 0 nm tk1_10 = _ from hW_15, sb_k, hW_26, sb_e]⟩)), rfl, rfl⟩) (by omega) (by omega)
    · refine ⟨rfl, ?_⟩
      refine V.cast (st' := [.int (nI 0)]) (ws' := [ob k 8 [.int (nI th), .int (nI tr), .int wh, va_rf g, .ref gr7, .ref (q 5), .int (nI (z 6)), .int (nI sz), .int (nI sp1_10), .int (nI 5), .int (nI pl1_10), .int nb1_10, .int (nI f_15), .int (nI p_15), .long wd1_10, .ref (q 15), .ref (q 16), .ref (q 17), .ref (q 18), .int (nI (z 19)), .int (nI (z 20)), .ref (q 21), .long (lN ev), .ref (q 23), .ref (q 24), .int (nI (z 25)), .ref (q 26), .int al, .long wl, .int (nI (z 29))], aB E (q 5) 900 tp, ob gr7 7 [.int bl, .int (nI (cy 1)), .int (nI (cy 2)), .int (nI (cy 3)), .int (nI (cy 4)), .int (nI (cy 5)), .int (nI (cy 6)), .int (nI (cy 7)), .int (nI kp), .int (nI nc), .ref (cb 0), .ref (cb 1), .ref (cb 2), .ref (cb 3), .ref (cb 4), .ref (cb 5), .ref (cb 6), .ref (cb 7), .ref (cb 8), .ref (cb 9), .ref (cb 10), .ref (cb 11)], aL E (cb 9) 18 na, aN E (cb 10) 18 ns, aN E (cb 11) 18 nu, aN E (cb 6) 6 gdm, aN E (cb 7) 6 gdd, aN E (cb 8) 6 gds]) rfl rfl rfl ?_
      refine v_istore_n X dX8_readDid_18 rfl (by decide) (lv' := [(1, .int (nI 0)), (0, .ref k)]) rfl ?_
      refine v_aload_n X dX8_readDid_19 rfl 1 rfl ?_
      refine v_ldcSW X dX8_readDid_20 (i := 17) (tx := "day") (by decide) ?_
      refine v_iconst X dX8_readDid_23 (v := nI 0) (by decide) ?_
      refine v_bipush X dX8_readDid_24 (v := nI 40) (by decide) ?_
      refine v_roI1 X (rn_V X k_X8_readPart ml_X8_205 dX8_readDid_26 (c_X8_readPart_o l E k th tr wh g (some gr7) q (upN (upN (upN (upN z 7 sz) 8 sp1_10) 10 pl1_10) 12 f_15) nb1_10 (nI p_15) wd1_10 ev al wl 17 0 40 (by decide)) rfl 0 rfl rfl (by decide) (by decide) (by omega) (by omega) (Nat.le_of_ble_eq_true rfl)) [0] rfl rfl ?_
      refine v_istore_n X dX8_readDid_29 rfl (by decide) (lv' := [(2, .int (nI 0)), (1, .int (nI 0)), (0, .ref k)]) rfl ?_
      refine v_aload_n X dX8_readDid_30 rfl 2 rfl ?_
      refine v_ldcSW X dX8_readDid_31 (i := 18) (tx := "kept") (by decide) ?_
      refine v_roI1 X (rn_V X k_X8_isWord ml_X8_114 dX8_readDid_34 (c_X8_isWord l E k th tr wh g (some gr7) q (upN (upN (upN (upN z 7 sz) 8 sp1_10) 10 pl1_10) 12 f_15) nb1_10 (nI p_15) wd1_10 ev al wl 5 18 (by decide) (by omega)) rfl 0 rfl rfl (by decide) (by decide) (by omega) (by omega) (Nat.le_of_ble_eq_true rfl)) [0] rfl rfl ?_
      refine v_istore_n X dX8_readDid_37 rfl (by decide) (lv' := [(3, .int (nI (decide (5 = 2 ∧ wd1_10 = lN (pkS 32 18))).toNat)), (2, .int (nI 0)), (1, .int (nI 0)), (0, .ref k)]) rfl ?_
      refine v_iload_n X dX8_readDid_38 rfl 0 rfl ?_
      refine v_ifB_ne X dX8_readDid_39 (tgt := 57) (by decide) (fun h39 => ?_) (fun h39 => ?_)
      · exact absurd (of_decide_eq_true h39).1 (by decide)
      · refine v_aload_n X dX8_readDid_42 rfl 3 rfl ?_
        refine v_ldcSW X dX8_readDid_43 (i := 19) (tx := "breach") (by decide) ?_
        refine v_roI1 X (rn_V X k_X8_isWord ml_X8_114 dX8_readDid_46 (c_X8_isWord l E k th tr wh g (some gr7) q (upN (upN (upN (upN z 7 sz) 8 sp1_10) 10 pl1_10) 12 f_15) nb1_10 (nI p_15) wd1_10 ev al wl 5 19 (by decide) (by omega)) rfl 0 rfl rfl (by decide) (by decide) (by omega) (by omega) (Nat.le_of_ble_eq_true rfl)) [0] rfl rfl ?_
        refine v_ifB_ne X dX8_readDid_49 (tgt := 57) (by decide) (fun h49 => ?_) (fun h49 => ?_)
        · exact absurd (of_decide_eq_true h49).1 (by decide)
        · refine v_aload_n X dX8_readDid_52 rfl 3 rfl ?_
          refine v_iconst X dX8_readDid_53 (v := nI 1) (by decide) ?_
          refine v_roV1 X (rn_V X k_X8_flaw ml_X8_118 dX8_readDid_54 (c_X8_flaw_o l E k th tr wh g (some gr7) q (upN (upN (upN (upN z 7 sz) 8 sp1_10) 10 pl1_10) 12 f_15) nb1_10 (nI p_15) wd1_10 ev al wl 1 ) rfl 0 rfl rfl (by decide) (by decide) (by omega) (by omega) (Nat.le_of_ble_eq_true rfl)) [0] rfl rfl ?_
          refine v_aload_n X dX8_readDid_57 rfl 3 rfl ?_
          refine v_roV1 X (rn_V X k_X8_goesOn ml_X8_111 dX8_readDid_58 (c_X8_goesOn_o l E k th tr wh g (some gr7) q (upN (upN (upN (upN z 7 sz) 8 sp1_10) 10 pl1_10) 12 f_15) nb1_10 (nI p_15) wd1_10 ev al wl ) rfl 0 rfl rfl (by decide) (by decide) (by omega) (by omega) (Nat.le_of_ble_eq_true rfl)) [0] rfl rfl ?_
          refine v_aload_n X dX8_readDid_61 rfl 3 rfl ?_
          refine v_roI1 X (rn_V X k_X8_readDeeds ml_X8_286 dX8_readDid_62 (c_X8_readDeeds_o l E k th tr wh g (some gr7) q (upN (upN (upN (upN z 7 sz) 8 sp1_10) 10 pl1_10) 12 f_15) nb1_10 (nI p_15) wd1_10 ev al wl ) rfl 0 rfl rfl (by decide) (by decide) (by omega) (by omega) (Nat.le_of_ble_eq_true rfl)) [0] rfl rfl ?_
          refine v_istore X dX8_readDid_65 (by decide) (lv' := [(4, .int (nI 0)), (3, .int (nI (decide (5 = 2 ∧ wd1_10 = lN (pkS 32 18))).toNat)), (2, .int (nI 0)), (1, .int (nI 0)), (0, .ref k)]) rfl ?_
          refine v_aload_n X dX8_readDid_67 rfl 4 rfl ?_
          refine v_get X kcX8 fl_X8_75 dX8_readDid_68 0 rfl rfl ?_
          refine v_iconst X dX8_readDid_71 (v := nI 5) (by decide) ?_
          refine v_icmpN_ne X dX8_readDid_72 (tgt := 76) (by decide) (by decide) (by decide) (fun h72 => ?_) (fun h72 => ?_)
          · exfalso; omega
          · exact v_vret X Y dX8_readDid_75 (Or.inr ⟨f_15, p_15, pl1_10, sp1_10, wd1_10, nb1_10, (Or.inr (Or.inr ⟨h1_10, h2_10, by rw [hA_10, did_e, show pnS tp sz kwd 1 0 nm tk1_10 = _ from hW_15, sb_e]⟩)), rfl, rfl⟩) (by omega) (by omega)
  · refine ⟨rfl, ?_⟩
    refine V.cast (st' := []) (ws' := [ob k 8 [.int (nI th), .int (nI tr), .int wh, va_rf g, .ref gr7, .ref (q 5), .int (nI (z 6)), .int (nI sz), .int (nI sp), .int (nI 5), .int (nI pl), .int nb, .int (nI 5), .int (nI pl), .long wd, .ref (q 15), .ref (q 16), .ref (q 17), .ref (q 18), .int (nI (z 19)), .int (nI (z 20)), .ref (q 21), .long (lN ev), .ref (q 23), .ref (q 24), .int (nI (z 25)), .ref (q 26), .int al, .long wl, .int (nI (z 29))], aB E (q 5) 900 tp, ob gr7 7 [.int bl, .int (nI (cy 1)), .int (nI (cy 2)), .int (nI (cy 3)), .int (nI (cy 4)), .int (nI (cy 5)), .int (nI (cy 6)), .int (nI (cy 7)), .int (nI kp), .int (nI nc), .ref (cb 0), .ref (cb 1), .ref (cb 2), .ref (cb 3), .ref (cb 4), .ref (cb 5), .ref (cb 6), .ref (cb 7), .ref (cb 8), .ref (cb 9), .ref (cb 10), .ref (cb 11)], aL E (cb 9) 18 na, aN E (cb 10) 18 ns, aN E (cb 11) 18 nu, aN E (cb 6) 6 gdm, aN E (cb 7) 6 gdd, aN E (cb 8) 6 gds]) rfl rfl rfl ?_
    refine v_aload_n X dX8_readDid_13 rfl 0 rfl ?_
    refine v_iconst X dX8_readDid_14 (v := nI 0) (by decide) ?_
    refine v_roI1 X (rn_V X k_X8_readKnown ml_X8_245 dX8_readDid_15 (c_X8_readKnown_o l E k th tr wh g q (upN (upN (upN (upN z 7 sz) 8 sp) 10 pl) 12 5) nb (nI pl) wd ev al wl gr7 cy bl kp nc cb na ns nu 0 (by first | assumption | omega) (by first | assumption | omega) (by decide)) rfl 0 rfl rfl (by decide) (by decide) (by omega) (by omega) (Nat.le_of_ble_eq_true rfl)) [0, 2, 3, 4, 5] rfl rfl ?_
    refine v_istore_n X dX8_readDid_18 rfl (by decide) (lv' := [(1, .int (nI 0)), (0, .ref k)]) rfl ?_
    refine v_aload_n X dX8_readDid_19 rfl 1 rfl ?_
    refine v_ldcSW X dX8_readDid_20 (i := 17) (tx := "day") (by decide) ?_
    refine v_iconst X dX8_readDid_23 (v := nI 0) (by decide) ?_
    refine v_bipush X dX8_readDid_24 (v := nI 40) (by decide) ?_
    refine v_roI1 X (rn_V X k_X8_readPart ml_X8_205 dX8_readDid_26 (c_X8_readPart_o l E k th tr wh g (some gr7) q (upN (upN (upN (upN z 7 sz) 8 sp) 10 pl) 12 5) nb (nI pl) wd ev al wl 17 0 40 (by decide)) rfl 0 rfl rfl (by decide) (by decide) (by omega) (by omega) (Nat.le_of_ble_eq_true rfl)) [0] rfl rfl ?_
    refine v_istore_n X dX8_readDid_29 rfl (by decide) (lv' := [(2, .int (nI 0)), (1, .int (nI 0)), (0, .ref k)]) rfl ?_
    refine v_aload_n X dX8_readDid_30 rfl 2 rfl ?_
    refine v_ldcSW X dX8_readDid_31 (i := 18) (tx := "kept") (by decide) ?_
    refine v_roI1 X (rn_V X k_X8_isWord ml_X8_114 dX8_readDid_34 (c_X8_isWord l E k th tr wh g (some gr7) q (upN (upN (upN (upN z 7 sz) 8 sp) 10 pl) 12 5) nb (nI pl) wd ev al wl 5 18 (by decide) (by omega)) rfl 0 rfl rfl (by decide) (by decide) (by omega) (by omega) (Nat.le_of_ble_eq_true rfl)) [0] rfl rfl ?_
    refine v_istore_n X dX8_readDid_37 rfl (by decide) (lv' := [(3, .int (nI (decide (5 = 2 ∧ wd = lN (pkS 32 18))).toNat)), (2, .int (nI 0)), (1, .int (nI 0)), (0, .ref k)]) rfl ?_
    refine v_iload_n X dX8_readDid_38 rfl 0 rfl ?_
    refine v_ifB_ne X dX8_readDid_39 (tgt := 57) (by decide) (fun h39 => ?_) (fun h39 => ?_)
    · exact absurd (of_decide_eq_true h39).1 (by decide)
    · refine v_aload_n X dX8_readDid_42 rfl 3 rfl ?_
      refine v_ldcSW X dX8_readDid_43 (i := 19) (tx := "breach") (by decide) ?_
      refine v_roI1 X (rn_V X k_X8_isWord ml_X8_114 dX8_readDid_46 (c_X8_isWord l E k th tr wh g (some gr7) q (upN (upN (upN (upN z 7 sz) 8 sp) 10 pl) 12 5) nb (nI pl) wd ev al wl 5 19 (by decide) (by omega)) rfl 0 rfl rfl (by decide) (by decide) (by omega) (by omega) (Nat.le_of_ble_eq_true rfl)) [0] rfl rfl ?_
      refine v_ifB_ne X dX8_readDid_49 (tgt := 57) (by decide) (fun h49 => ?_) (fun h49 => ?_)
      · exact absurd (of_decide_eq_true h49).1 (by decide)
      · refine v_aload_n X dX8_readDid_52 rfl 3 rfl ?_
        refine v_iconst X dX8_readDid_53 (v := nI 1) (by decide) ?_
        refine v_roV1 X (rn_V X k_X8_flaw ml_X8_118 dX8_readDid_54 (c_X8_flaw_o l E k th tr wh g (some gr7) q (upN (upN (upN (upN z 7 sz) 8 sp) 10 pl) 12 5) nb (nI pl) wd ev al wl 1 ) rfl 0 rfl rfl (by decide) (by decide) (by omega) (by omega) (Nat.le_of_ble_eq_true rfl)) [0] rfl rfl ?_
        refine v_aload_n X dX8_readDid_57 rfl 3 rfl ?_
        refine v_roV1 X (rn_V X k_X8_goesOn ml_X8_111 dX8_readDid_58 (c_X8_goesOn_o l E k th tr wh g (some gr7) q (upN (upN (upN (upN z 7 sz) 8 sp) 10 pl) 12 5) nb (nI pl) wd ev al wl ) rfl 0 rfl rfl (by decide) (by decide) (by omega) (by omega) (Nat.le_of_ble_eq_true rfl)) [0] rfl rfl ?_
        refine v_aload_n X dX8_readDid_61 rfl 3 rfl ?_
        refine v_roI1 X (rn_V X k_X8_readDeeds ml_X8_286 dX8_readDid_62 (c_X8_readDeeds_o l E k th tr wh g (some gr7) q (upN (upN (upN (upN z 7 sz) 8 sp) 10 pl) 12 5) nb (nI pl) wd ev al wl ) rfl 0 rfl rfl (by decide) (by decide) (by omega) (by omega) (Nat.le_of_ble_eq_true rfl)) [0] rfl rfl ?_
        refine v_istore X dX8_readDid_65 (by decide) (lv' := [(4, .int (nI 0)), (3, .int (nI (decide (5 = 2 ∧ wd = lN (pkS 32 18))).toNat)), (2, .int (nI 0)), (1, .int (nI 0)), (0, .ref k)]) rfl ?_
        refine v_aload_n X dX8_readDid_67 rfl 4 rfl ?_
        refine v_get X kcX8 fl_X8_75 dX8_readDid_68 0 rfl rfl ?_
        refine v_iconst X dX8_readDid_71 (v := nI 5) (by decide) ?_
        refine v_icmpN_ne X dX8_readDid_72 (tgt := 76) (by decide) (by decide) (by decide) (fun h72 => ?_) (fun h72 => ?_)
        · exfalso; omega
        · exact v_vret X Y dX8_readDid_75 (Or.inr ⟨5, pl, pl, sp, wd, nb, (Or.inl ⟨h1_10, rfl, hT8.1⟩), rfl, rfl⟩) (by omega) (by omega)
  · refine ⟨rfl, ?_⟩
    refine V.cast (st' := []) (ws' := [ob k 8 [.int (nI th), .int (nI tr), .int wh, va_rf g, .ref gr7, .ref (q 5), .int (nI (z 6)), .int (nI sz), .int (nI sp), .int (nI 5), .int (nI pl), .int nb, .int (nI 6), .int (nI pl), .long wd, .ref (q 15), .ref (q 16), .ref (q 17), .ref (q 18), .int (nI (z 19)), .int (nI (z 20)), .ref (q 21), .long (lN ev), .ref (q 23), .ref (q 24), .int (nI (z 25)), .ref (q 26), .int al, .long wl, .int (nI (z 29))], aB E (q 5) 900 tp, ob gr7 7 [.int bl, .int (nI (cy 1)), .int (nI (cy 2)), .int (nI (cy 3)), .int (nI (cy 4)), .int (nI (cy 5)), .int (nI (cy 6)), .int (nI (cy 7)), .int (nI kp), .int (nI nc), .ref (cb 0), .ref (cb 1), .ref (cb 2), .ref (cb 3), .ref (cb 4), .ref (cb 5), .ref (cb 6), .ref (cb 7), .ref (cb 8), .ref (cb 9), .ref (cb 10), .ref (cb 11)], aL E (cb 9) 18 na, aN E (cb 10) 18 ns, aN E (cb 11) 18 nu, aN E (cb 6) 6 gdm, aN E (cb 7) 6 gdd, aN E (cb 8) 6 gds]) rfl rfl rfl ?_
    refine v_aload_n X dX8_readDid_13 rfl 0 rfl ?_
    refine v_iconst X dX8_readDid_14 (v := nI 0) (by decide) ?_
    refine v_roI1 X (rn_V X k_X8_readKnown ml_X8_245 dX8_readDid_15 (c_X8_readKnown_o l E k th tr wh g q (upN (upN (upN (upN z 7 sz) 8 sp) 10 pl) 12 6) nb (nI pl) wd ev al wl gr7 cy bl kp nc cb na ns nu 0 (by first | assumption | omega) (by first | assumption | omega) (by decide)) rfl 0 rfl rfl (by decide) (by decide) (by omega) (by omega) (Nat.le_of_ble_eq_true rfl)) [0, 2, 3, 4, 5] rfl rfl ?_
    refine v_istore_n X dX8_readDid_18 rfl (by decide) (lv' := [(1, .int (nI 0)), (0, .ref k)]) rfl ?_
    refine v_aload_n X dX8_readDid_19 rfl 1 rfl ?_
    refine v_ldcSW X dX8_readDid_20 (i := 17) (tx := "day") (by decide) ?_
    refine v_iconst X dX8_readDid_23 (v := nI 0) (by decide) ?_
    refine v_bipush X dX8_readDid_24 (v := nI 40) (by decide) ?_
    refine v_roI1 X (rn_V X k_X8_readPart ml_X8_205 dX8_readDid_26 (c_X8_readPart_o l E k th tr wh g (some gr7) q (upN (upN (upN (upN z 7 sz) 8 sp) 10 pl) 12 6) nb (nI pl) wd ev al wl 17 0 40 (by decide)) rfl 0 rfl rfl (by decide) (by decide) (by omega) (by omega) (Nat.le_of_ble_eq_true rfl)) [0] rfl rfl ?_
    refine v_istore_n X dX8_readDid_29 rfl (by decide) (lv' := [(2, .int (nI 0)), (1, .int (nI 0)), (0, .ref k)]) rfl ?_
    refine v_aload_n X dX8_readDid_30 rfl 2 rfl ?_
    refine v_ldcSW X dX8_readDid_31 (i := 18) (tx := "kept") (by decide) ?_
    refine v_roI1 X (rn_V X k_X8_isWord ml_X8_114 dX8_readDid_34 (c_X8_isWord l E k th tr wh g (some gr7) q (upN (upN (upN (upN z 7 sz) 8 sp) 10 pl) 12 6) nb (nI pl) wd ev al wl 5 18 (by decide) (by omega)) rfl 0 rfl rfl (by decide) (by decide) (by omega) (by omega) (Nat.le_of_ble_eq_true rfl)) [0] rfl rfl ?_
    refine v_istore_n X dX8_readDid_37 rfl (by decide) (lv' := [(3, .int (nI (decide (5 = 2 ∧ wd = lN (pkS 32 18))).toNat)), (2, .int (nI 0)), (1, .int (nI 0)), (0, .ref k)]) rfl ?_
    refine v_iload_n X dX8_readDid_38 rfl 0 rfl ?_
    refine v_ifB_ne X dX8_readDid_39 (tgt := 57) (by decide) (fun h39 => ?_) (fun h39 => ?_)
    · exact absurd (of_decide_eq_true h39).1 (by decide)
    · refine v_aload_n X dX8_readDid_42 rfl 3 rfl ?_
      refine v_ldcSW X dX8_readDid_43 (i := 19) (tx := "breach") (by decide) ?_
      refine v_roI1 X (rn_V X k_X8_isWord ml_X8_114 dX8_readDid_46 (c_X8_isWord l E k th tr wh g (some gr7) q (upN (upN (upN (upN z 7 sz) 8 sp) 10 pl) 12 6) nb (nI pl) wd ev al wl 5 19 (by decide) (by omega)) rfl 0 rfl rfl (by decide) (by decide) (by omega) (by omega) (Nat.le_of_ble_eq_true rfl)) [0] rfl rfl ?_
      refine v_ifB_ne X dX8_readDid_49 (tgt := 57) (by decide) (fun h49 => ?_) (fun h49 => ?_)
      · exact absurd (of_decide_eq_true h49).1 (by decide)
      · refine v_aload_n X dX8_readDid_52 rfl 3 rfl ?_
        refine v_iconst X dX8_readDid_53 (v := nI 1) (by decide) ?_
        refine v_roV1 X (rn_V X k_X8_flaw ml_X8_118 dX8_readDid_54 (c_X8_flaw_o l E k th tr wh g (some gr7) q (upN (upN (upN (upN z 7 sz) 8 sp) 10 pl) 12 6) nb (nI pl) wd ev al wl 1 ) rfl 0 rfl rfl (by decide) (by decide) (by omega) (by omega) (Nat.le_of_ble_eq_true rfl)) [0] rfl rfl ?_
        refine v_aload_n X dX8_readDid_57 rfl 3 rfl ?_
        refine v_roV1 X (rn_V X k_X8_goesOn ml_X8_111 dX8_readDid_58 (c_X8_goesOn_o l E k th tr wh g (some gr7) q (upN (upN (upN (upN z 7 sz) 8 sp) 10 pl) 12 6) nb (nI pl) wd ev al wl ) rfl 0 rfl rfl (by decide) (by decide) (by omega) (by omega) (Nat.le_of_ble_eq_true rfl)) [0] rfl rfl ?_
        refine v_aload_n X dX8_readDid_61 rfl 3 rfl ?_
        refine v_roI1 X (rn_V X k_X8_readDeeds ml_X8_286 dX8_readDid_62 (c_X8_readDeeds_o l E k th tr wh g (some gr7) q (upN (upN (upN (upN z 7 sz) 8 sp) 10 pl) 12 6) nb (nI pl) wd ev al wl ) rfl 0 rfl rfl (by decide) (by decide) (by omega) (by omega) (Nat.le_of_ble_eq_true rfl)) [0] rfl rfl ?_
        refine v_istore X dX8_readDid_65 (by decide) (lv' := [(4, .int (nI 0)), (3, .int (nI (decide (5 = 2 ∧ wd = lN (pkS 32 18))).toNat)), (2, .int (nI 0)), (1, .int (nI 0)), (0, .ref k)]) rfl ?_
        refine v_aload_n X dX8_readDid_67 rfl 4 rfl ?_
        refine v_get X kcX8 fl_X8_75 dX8_readDid_68 0 rfl rfl ?_
        refine v_iconst X dX8_readDid_71 (v := nI 5) (by decide) ?_
        refine v_icmpN_ne X dX8_readDid_72 (tgt := 76) (by decide) (by decide) (by decide) (fun h72 => ?_) (fun h72 => ?_)
        · exfalso; omega
        · exact v_vret X Y dX8_readDid_75 (Or.inr ⟨6, pl, pl, sp, wd, nb, (Or.inr (Or.inl ⟨h1_10, h2_10, rfl, hT8.1⟩)), rfl, rfl⟩) (by omega) (by omega)
