theorem head_e {tp : Nat → Int32} {en : Nat} {k : Tk} : headF tp en k = sb (sb (wdS tp en 6 k) (whS tp en 0 9)) fun x1 => sb (sb (wdS tp en 7 x1.2) (whS tp en 0 100)) fun x2 => sb (sb (wdS tp en 8 x2.2) (whS tp en 0 100)) fun x3 => .inr (x1.1, x2.1, x3.1, x3.2) := by
  unfold headF
  cases wdS tp en 6 k with
  | inl e => rfl
  | inr k1 =>
    show sb (whS tp en 0 9 k1) _ = sb (whS tp en 0 9 k1) _
    cases whS tp en 0 9 k1 with
    | inl e => rfl
    | inr x1 =>
      show sb (wdS tp en 7 x1.2) _ = sb (sb (wdS tp en 7 x1.2) _) _
      cases wdS tp en 7 x1.2 with
      | inl e => rfl
      | inr k2 =>
        show sb (whS tp en 0 100 k2) _ = sb (whS tp en 0 100 k2) _
        cases whS tp en 0 100 k2 with
        | inl e => rfl
        | inr x2 =>
          show sb (wdS tp en 8 x2.2) _ = sb (sb (wdS tp en 8 x2.2) _) _
          cases wdS tp en 8 x2.2 with
          | inl e => rfl
          | inr k3 => rfl
set_option maxRecDepth 100000 in
set_option maxHeartbeats 4000000 in
theorem c_X8_readCityL (l : Launch) (E : Et) (k : Nat) (th : Nat) (tr : Nat) (wh : Int32) (g : Option Nat) (q : Nat → Nat) (z : Nat → Nat) (nb : Int32) (wa : Int32) (wd : Int64) (ev : Nat) (al : Int32) (wl : Int64) (sz : Nat) (sp : Nat) (so : Nat) (pl : Nat) (tp : Nat → Int32) (tk : Tk) (gr7 : Nat) (cy : Nat → Nat) (bl : Int32) (kp : Nat) (nc : Nat) (cb : Nat → Nat) (hT8 : T8 tk so pl sp wd nb) (htO : tkO sz tk) (hso : so ≤ 4) (hsz : sz ≤ 900) (hby : byT tp) (hs0 : ¬ so = 0) : Ct l E yX8_readCity cX8_readCity 4 none 8 0 0 [.ref k] [ob k 8 [.int (nI th), .int (nI tr), .int wh, va_rf g, .ref gr7, .ref (q 5), .int (nI (z 6)), .int (nI sz), .int (nI sp), .int (nI so), .int (nI pl), .int nb, .int (nI (z 12)), .int wa, .long wd, .ref (q 15), .ref (q 16), .ref (q 17), .ref (q 18), .int (nI (z 19)), .int (nI (z 20)), .ref (q 21), .long (lN ev), .ref (q 23), .ref (q 24), .int (nI (z 25)), .ref (q 26), .int al, .long wl, .int (nI (z 29))], aB E (q 5) 900 tp, ob gr7 7 [.int bl, .int (nI (cy 1)), .int (nI (cy 2)), .int (nI (cy 3)), .int (nI (cy 4)), .int (nI (cy 5)), .int (nI (cy 6)), .int (nI (cy 7)), .int (nI kp), .int (nI nc), .ref (cb 0), .ref (cb 1), .ref (cb 2), .ref (cb 3), .ref (cb 4), .ref (cb 5), .ref (cb 6), .ref (cb 7), .ref (cb 8), .ref (cb 9), .ref (cb 10), .ref (cb 11)]] ((fun r w => (∃ (xb : Nat) (xs : Nat) (xr : Nat) (tk1 : Tk) (so1 : Nat) (pl1 : Nat) (sp1 : Nat) (wd1 : Int64) (nb1 : Int32), (bl = -1) ∧ (headF tp sz (advK tp sz tk) = .inr (xb, xs, xr, tk1)) ∧ (T8 tk1 so1 pl1 sp1 wd1 nb1) ∧ (tkO sz tk1) ∧ (so1 ≤ 4) ∧ w = [ob k 8 [.int (nI th), .int (nI tr), .int wh, va_rf g, .ref gr7, .ref (q 5), .int (nI (z 6)), .int (nI sz), .int (nI sp1), .int (nI so1), .int (nI pl1), .int nb1, .int (nI (z 12)), .int wa, .long wd1, .ref (q 15), .ref (q 16), .ref (q 17), .ref (q 18), .int (nI (z 19)), .int (nI (z 20)), .ref (q 21), .long (lN ev), .ref (q 23), .ref (q 24), .int (nI (z 25)), .ref (q 26), .int al, .long wl, .int (nI (z 29))], aB E (q 5) 900 tp, ob gr7 7 [.int (nI xb), .int (nI xs), .int (nI xr), .int (nI (cy 3)), .int (nI (cy 4)), .int (nI (cy 5)), .int (nI (cy 6)), .int (nI (cy 7)), .int (nI kp), .int (nI nc), .ref (cb 0), .ref (cb 1), .ref (cb 2), .ref (cb 3), .ref (cb 4), .ref (cb 5), .ref (cb 6), .ref (cb 7), .ref (cb 8), .ref (cb 9), .ref (cb 10), .ref (cb 11)]] ∧ r = none) ∨ (∃ (f : Nat) (p : Nat) (pl1 : Nat) (sp1 : Nat) (wd1 : Int64) (nb1 : Int32), ((¬ bl = -1 ∧ f = 3 ∧ p = tk.2.1) ∨ (bl = -1 ∧ headF tp sz (advK tp sz tk) = .inl (f, p))) ∧ w = [ob k 8 [.int (nI th), .int (nI tr), .int wh, va_rf g, .ref gr7, .ref (q 5), .int (nI (z 6)), .int (nI sz), .int (nI sp1), .int (nI 5), .int (nI pl1), .int nb1, .int (nI f), .int (nI p), .long wd1, .ref (q 15), .ref (q 16), .ref (q 17), .ref (q 18), .int (nI (z 19)), .int (nI (z 20)), .ref (q 21), .long (lN ev), .ref (q 23), .ref (q 24), .int (nI (z 25)), .ref (q 26), .int al, .long wl, .int (nI (z 29))], aB E (q 5) 900 tp, ob gr7 7 [.int bl, .int (nI (cy 1)), .int (nI (cy 2)), .int (nI (cy 3)), .int (nI (cy 4)), .int (nI (cy 5)), .int (nI (cy 6)), .int (nI (cy 7)), .int (nI kp), .int (nI nc), .ref (cb 0), .ref (cb 1), .ref (cb 2), .ref (cb 3), .ref (cb 4), .ref (cb 5), .ref (cb 6), .ref (cb 7), .ref (cb 8), .ref (cb 9), .ref (cb 10), .ref (cb 11)]] ∧ r = none))) := by
  refine Ct.intro (by decide +kernel) (Nat.le_of_ble_eq_true rfl) (lv := [(0, .ref k)]) rfl ?_
  intro Z X Y
  have hspe : sp = tk.2.2.1 := t8_sp hT8 hs0
  refine v_aload_n X dX8_readCity_0 rfl 0 rfl ?_
  refine v_get X kcX8 fl_X8_142 dX8_readCity_1 0 rfl rfl ?_
  refine v_getN X kcX7 fl_X8_146 dX8_readCity_4 2 rfl rfl ?_
  refine v_iconst X dX8_readCity_7 (v := (-1)) (by decide) ?_
  refine v_icmp_eq X dX8_readCity_8 (tgt := 16) (by decide) (fun h8 => ?_) (fun h8 => ?_)
  · refine v_aload_n X dX8_readCity_16 rfl 0 rfl ?_
    refine v_wr X (rn_V X k_X8_goesOn ml_X8_111 dX8_readCity_17 (c_X8_goesOnL l E k th tr wh g (some gr7) q z nb wa wd ev al wl sz sp so pl tp tk.2.2.2 (by omega) (by first | assumption | omega) (by rw [hspe]; exact htO.2.2.1) (by first | assumption | omega)) rfl 0 rfl rfl (by decide) (by decide) (by omega) (by omega) (Nat.le_of_ble_eq_true rfl)) [0, 1] rfl rfl (fun r w1 hpo => ?_)
    rcases hpo with ⟨so1_17, pl1_17, sp1_17, wd1_17, nb1_17, hT8_17, hs1_17, hs4_17, rfl, rfl⟩
    · refine ⟨rfl, ?_⟩
      refine V.cast (st' := []) (ws' := [ob k 8 [.int (nI th), .int (nI tr), .int wh, va_rf g, .ref gr7, .ref (q 5), .int (nI (z 6)), .int (nI sz), .int (nI sp1_17), .int (nI so1_17), .int (nI pl1_17), .int nb1_17, .int (nI (z 12)), .int wa, .long wd1_17, .ref (q 15), .ref (q 16), .ref (q 17), .ref (q 18), .int (nI (z 19)), .int (nI (z 20)), .ref (q 21), .long (lN ev), .ref (q 23), .ref (q 24), .int (nI (z 25)), .ref (q 26), .int al, .long wl, .int (nI (z 29))], aB E (q 5) 900 tp, ob gr7 7 [.int bl, .int (nI (cy 1)), .int (nI (cy 2)), .int (nI (cy 3)), .int (nI (cy 4)), .int (nI (cy 5)), .int (nI (cy 6)), .int (nI (cy 7)), .int (nI kp), .int (nI nc), .ref (cb 0), .ref (cb 1), .ref (cb 2), .ref (cb 3), .ref (cb 4), .ref (cb 5), .ref (cb 6), .ref (cb 7), .ref (cb 8), .ref (cb 9), .ref (cb 10), .ref (cb 11)]]) rfl rfl rfl ?_
      have hTg : T8 (advK tp sz tk) so1_17 pl1_17 sp1_17 wd1_17 nb1_17 := by have h9 := hT8_17; rw [hspe] at h9; exact h9
      refine v_aload_n X dX8_readCity_20 rfl 0 rfl ?_
      refine v_ldcS X dX8_readCity_21 (i := 6) (tx := "blur") (by decide) ?_
      refine v_iconst X dX8_readCity_23 (v := nI 0) (by decide) ?_
      refine v_bipush X dX8_readCity_24 (v := nI 9) (by decide) ?_
      refine v_wr X (rn_V X k_X8_readPart ml_X8_205 dX8_readCity_26 (c_X8_readPartL l E k th tr wh g (some gr7) q z nb1_17 wa wd1_17 ev al wl sz sp1_17 so1_17 pl1_17 tp (advK tp sz tk) 6 0 9 (by decide) (hTg) ((advK_ok htO).1) (hs4_17) (by first | assumption | omega) (by first | assumption | omega) (by decide) (by decide)) rfl 0 rfl rfl (by decide) (by decide) (by omega) (by omega) (Nat.le_of_ble_eq_true rfl)) [0, 1] rfl rfl (fun r w1 hpo => ?_)
      rcases hpo with ⟨x_26, tk1_26, so1_26, pl1_26, sp1_26, wd1_26, nb1_26, hW_26, hT_26, hU_26, hS_26, hx1_26, hx2_26, rfl, rfl⟩ | ⟨f_26, p_26, pl1_26, sp1_26, wd1_26, nb1_26, hW_26, rfl, rfl⟩
      · refine ⟨rfl, ?_⟩
        refine V.cast (st' := [.int (nI x_26)]) (ws' := [ob k 8 [.int (nI th), .int (nI tr), .int wh, va_rf g, .ref gr7, .ref (q 5), .int (nI (z 6)), .int (nI sz), .int (nI sp1_26), .int (nI so1_26), .int (nI pl1_26), .int nb1_26, .int (nI (z 12)), .int wa, .long wd1_26, .ref (q 15), .ref (q 16), .ref (q 17), .ref (q 18), .int (nI (z 19)), .int (nI (z 20)), .ref (q 21), .long (lN ev), .ref (q 23), .ref (q 24), .int (nI (z 25)), .ref (q 26), .int al, .long wl, .int (nI (z 29))], aB E (q 5) 900 tp, ob gr7 7 [.int bl, .int (nI (cy 1)), .int (nI (cy 2)), .int (nI (cy 3)), .int (nI (cy 4)), .int (nI (cy 5)), .int (nI (cy 6)), .int (nI (cy 7)), .int (nI kp), .int (nI nc), .ref (cb 0), .ref (cb 1), .ref (cb 2), .ref (cb 3), .ref (cb 4), .ref (cb 5), .ref (cb 6), .ref (cb 7), .ref (cb 8), .ref (cb 9), .ref (cb 10), .ref (cb 11)]]) rfl rfl rfl ?_
        refine v_istore_n X dX8_readCity_29 rfl (by decide) (lv' := [(1, .int (nI x_26)), (0, .ref k)]) rfl ?_
        refine v_aload_n X dX8_readCity_30 rfl 1 rfl ?_
        refine v_ldcS X dX8_readCity_31 (i := 7) (tx := "slips") (by decide) ?_
        refine v_iconst X dX8_readCity_33 (v := nI 0) (by decide) ?_
        refine v_bipush X dX8_readCity_34 (v := nI 100) (by decide) ?_
        refine v_wr X (rn_V X k_X8_readPart ml_X8_205 dX8_readCity_36 (c_X8_readPartL l E k th tr wh g (some gr7) q z nb1_26 wa wd1_26 ev al wl sz sp1_26 so1_26 pl1_26 tp tk1_26 7 0 100 (by decide) (hT_26) (hU_26) (hS_26) (by first | assumption | omega) (by first | assumption | omega) (by decide) (by decide)) rfl 0 rfl rfl (by decide) (by decide) (by omega) (by omega) (Nat.le_of_ble_eq_true rfl)) [0, 1] rfl rfl (fun r w1 hpo => ?_)
        rcases hpo with ⟨x_36, tk1_36, so1_36, pl1_36, sp1_36, wd1_36, nb1_36, hW_36, hT_36, hU_36, hS_36, hx1_36, hx2_36, rfl, rfl⟩ | ⟨f_36, p_36, pl1_36, sp1_36, wd1_36, nb1_36, hW_36, rfl, rfl⟩
        · refine ⟨rfl, ?_⟩
          refine V.cast (st' := [.int (nI x_36)]) (ws' := [ob k 8 [.int (nI th), .int (nI tr), .int wh, va_rf g, .ref gr7, .ref (q 5), .int (nI (z 6)), .int (nI sz), .int (nI sp1_36), .int (nI so1_36), .int (nI pl1_36), .int nb1_36, .int (nI (z 12)), .int wa, .long wd1_36, .ref (q 15), .ref (q 16), .ref (q 17), .ref (q 18), .int (nI (z 19)), .int (nI (z 20)), .ref (q 21), .long (lN ev), .ref (q 23), .ref (q 24), .int (nI (z 25)), .ref (q 26), .int al, .long wl, .int (nI (z 29))], aB E (q 5) 900 tp, ob gr7 7 [.int bl, .int (nI (cy 1)), .int (nI (cy 2)), .int (nI (cy 3)), .int (nI (cy 4)), .int (nI (cy 5)), .int (nI (cy 6)), .int (nI (cy 7)), .int (nI kp), .int (nI nc), .ref (cb 0), .ref (cb 1), .ref (cb 2), .ref (cb 3), .ref (cb 4), .ref (cb 5), .ref (cb 6), .ref (cb 7), .ref (cb 8), .ref (cb 9), .ref (cb 10), .ref (cb 11)]]) rfl rfl rfl ?_
          refine v_istore_n X dX8_readCity_39 rfl (by decide) (lv' := [(2, .int (nI x_36)), (1, .int (nI x_26)), (0, .ref k)]) rfl ?_
          refine v_aload_n X dX8_readCity_40 rfl 2 rfl ?_
          refine v_ldcS X dX8_readCity_41 (i := 8) (tx := "rain") (by decide) ?_
          refine v_iconst X dX8_readCity_43 (v := nI 0) (by decide) ?_
          refine v_bipush X dX8_readCity_44 (v := nI 100) (by decide) ?_
          refine v_wr X (rn_V X k_X8_readPart ml_X8_205 dX8_readCity_46 (c_X8_readPartL l E k th tr wh g (some gr7) q z nb1_36 wa wd1_36 ev al wl sz sp1_36 so1_36 pl1_36 tp tk1_36 8 0 100 (by decide) (hT_36) (hU_36) (hS_36) (by first | assumption | omega) (by first | assumption | omega) (by decide) (by decide)) rfl 0 rfl rfl (by decide) (by decide) (by omega) (by omega) (Nat.le_of_ble_eq_true rfl)) [0, 1] rfl rfl (fun r w1 hpo => ?_)
          rcases hpo with ⟨x_46, tk1_46, so1_46, pl1_46, sp1_46, wd1_46, nb1_46, hW_46, hT_46, hU_46, hS_46, hx1_46, hx2_46, rfl, rfl⟩ | ⟨f_46, p_46, pl1_46, sp1_46, wd1_46, nb1_46, hW_46, rfl, rfl⟩
          · refine ⟨rfl, ?_⟩
            refine V.cast (st' := [.int (nI x_46)]) (ws' := [ob k 8 [.int (nI th), .int (nI tr), .int wh, va_rf g, .ref gr7, .ref (q 5), .int (nI (z 6)), .int (nI sz), .int (nI sp1_46), .int (nI so1_46), .int (nI pl1_46), .int nb1_46, .int (nI (z 12)), .int wa, .long wd1_46, .ref (q 15), .ref (q 16), .ref (q 17), .ref (q 18), .int (nI (z 19)), .int (nI (z 20)), .ref (q 21), .long (lN ev), .ref (q 23), .ref (q 24), .int (nI (z 25)), .ref (q 26), .int al, .long wl, .int (nI (z 29))], aB E (q 5) 900 tp, ob gr7 7 [.int bl, .int (nI (cy 1)), .int (nI (cy 2)), .int (nI (cy 3)), .int (nI (cy 4)), .int (nI (cy 5)), .int (nI (cy 6)), .int (nI (cy 7)), .int (nI kp), .int (nI nc), .ref (cb 0), .ref (cb 1), .ref (cb 2), .ref (cb 3), .ref (cb 4), .ref (cb 5), .ref (cb 6), .ref (cb 7), .ref (cb 8), .ref (cb 9), .ref (cb 10), .ref (cb 11)]]) rfl rfl rfl ?_
            refine v_istore_n X dX8_readCity_49 rfl (by decide) (lv' := [(3, .int (nI x_46)), (2, .int (nI x_36)), (1, .int (nI x_26)), (0, .ref k)]) rfl ?_
            refine v_aload_n X dX8_readCity_50 rfl 3 rfl ?_
            refine v_get X kcX8 fl_X8_75 dX8_readCity_51 0 rfl rfl ?_
            refine v_iconst X dX8_readCity_54 (v := nI 5) (by decide) ?_
            refine v_icmpN_ne X dX8_readCity_55 (tgt := 59) (by decide) (by omega) (by decide) (fun h55 => ?_) (fun h55 => ?_)
            · refine v_aload_n X dX8_readCity_59 rfl 3 rfl ?_
              refine v_get X kcX8 fl_X8_142 dX8_readCity_60 0 rfl rfl ?_
              refine v_iload_n X dX8_readCity_63 rfl 2 rfl ?_
              refine v_putN X kcX7 fl_X8_146 dX8_readCity_64 2 rfl (ws' := [ob k 8 [.int (nI th), .int (nI tr), .int wh, va_rf g, .ref gr7, .ref (q 5), .int (nI (z 6)), .int (nI sz), .int (nI sp1_46), .int (nI so1_46), .int (nI pl1_46), .int nb1_46, .int (nI (z 12)), .int wa, .long wd1_46, .ref (q 15), .ref (q 16), .ref (q 17), .ref (q 18), .int (nI (z 19)), .int (nI (z 20)), .ref (q 21), .long (lN ev), .ref (q 23), .ref (q 24), .int (nI (z 25)), .ref (q 26), .int al, .long wl, .int (nI (z 29))], aB E (q 5) 900 tp, ob gr7 7 [.int (nI x_26), .int (nI (cy 1)), .int (nI (cy 2)), .int (nI (cy 3)), .int (nI (cy 4)), .int (nI (cy 5)), .int (nI (cy 6)), .int (nI (cy 7)), .int (nI kp), .int (nI nc), .ref (cb 0), .ref (cb 1), .ref (cb 2), .ref (cb 3), .ref (cb 4), .ref (cb 5), .ref (cb 6), .ref (cb 7), .ref (cb 8), .ref (cb 9), .ref (cb 10), .ref (cb 11)]]) rfl rfl ?_
              refine v_aload_n X dX8_readCity_67 rfl 3 rfl ?_
              refine v_get X kcX8 fl_X8_142 dX8_readCity_68 0 rfl rfl ?_
              refine v_iload_n X dX8_readCity_71 rfl 1 rfl ?_
              refine v_putN X kcX7 fl_X8_213 dX8_readCity_72 2 rfl (ws' := [ob k 8 [.int (nI th), .int (nI tr), .int wh, va_rf g, .ref gr7, .ref (q 5), .int (nI (z 6)), .int (nI sz), .int (nI sp1_46), .int (nI so1_46), .int (nI pl1_46), .int nb1_46, .int (nI (z 12)), .int wa, .long wd1_46, .ref (q 15), .ref (q 16), .ref (q 17), .ref (q 18), .int (nI (z 19)), .int (nI (z 20)), .ref (q 21), .long (lN ev), .ref (q 23), .ref (q 24), .int (nI (z 25)), .ref (q 26), .int al, .long wl, .int (nI (z 29))], aB E (q 5) 900 tp, ob gr7 7 [.int (nI x_26), .int (nI x_36), .int (nI (cy 2)), .int (nI (cy 3)), .int (nI (cy 4)), .int (nI (cy 5)), .int (nI (cy 6)), .int (nI (cy 7)), .int (nI kp), .int (nI nc), .ref (cb 0), .ref (cb 1), .ref (cb 2), .ref (cb 3), .ref (cb 4), .ref (cb 5), .ref (cb 6), .ref (cb 7), .ref (cb 8), .ref (cb 9), .ref (cb 10), .ref (cb 11)]]) rfl rfl ?_
              refine v_aload_n X dX8_readCity_75 rfl 3 rfl ?_
              refine v_get X kcX8 fl_X8_142 dX8_readCity_76 0 rfl rfl ?_
              refine v_iload_n X dX8_readCity_79 rfl 0 rfl ?_
              refine v_putN X kcX7 fl_X8_215 dX8_readCity_80 2 rfl (ws' := [ob k 8 [.int (nI th), .int (nI tr), .int wh, va_rf g, .ref gr7, .ref (q 5), .int (nI (z 6)), .int (nI sz), .int (nI sp1_46), .int (nI so1_46), .int (nI pl1_46), .int nb1_46, .int (nI (z 12)), .int wa, .long wd1_46, .ref (q 15), .ref (q 16), .ref (q 17), .ref (q 18), .int (nI (z 19)), .int (nI (z 20)), .ref (q 21), .long (lN ev), .ref (q 23), .ref (q 24), .int (nI (z 25)), .ref (q 26), .int al, .long wl, .int (nI (z 29))], aB E (q 5) 900 tp, ob gr7 7 [.int (nI x_26), .int (nI x_36), .int (nI x_46), .int (nI (cy 3)), .int (nI (cy 4)), .int (nI (cy 5)), .int (nI (cy 6)), .int (nI (cy 7)), .int (nI kp), .int (nI nc), .ref (cb 0), .ref (cb 1), .ref (cb 2), .ref (cb 3), .ref (cb 4), .ref (cb 5), .ref (cb 6), .ref (cb 7), .ref (cb 8), .ref (cb 9), .ref (cb 10), .ref (cb 11)]]) rfl rfl ?_
              exact v_vret X Y dX8_readCity_83 (Or.inl ⟨x_26, x_36, x_46, tk1_46, so1_46, pl1_46, sp1_46, wd1_46, nb1_46, (h8), (by rw [head_e, hW_26, sb_k, hW_36, sb_k, hW_46, sb_k]), (hT_46), (hU_46), (hS_46), rfl, rfl⟩) (by omega) (by omega)
            · exfalso; omega
          · refine ⟨rfl, ?_⟩
            refine V.cast (st' := [.int (nI 0)]) (ws' := [ob k 8 [.int (nI th), .int (nI tr), .int wh, va_rf g, .ref gr7, .ref (q 5), .int (nI (z 6)), .int (nI sz), .int (nI sp1_46), .int (nI 5), .int (nI pl1_46), .int nb1_46, .int (nI f_46), .int (nI p_46), .long wd1_46, .ref (q 15), .ref (q 16), .ref (q 17), .ref (q 18), .int (nI (z 19)), .int (nI (z 20)), .ref (q 21), .long (lN ev), .ref (q 23), .ref (q 24), .int (nI (z 25)), .ref (q 26), .int al, .long wl, .int (nI (z 29))], aB E (q 5) 900 tp, ob gr7 7 [.int bl, .int (nI (cy 1)), .int (nI (cy 2)), .int (nI (cy 3)), .int (nI (cy 4)), .int (nI (cy 5)), .int (nI (cy 6)), .int (nI (cy 7)), .int (nI kp), .int (nI nc), .ref (cb 0), .ref (cb 1), .ref (cb 2), .ref (cb 3), .ref (cb 4), .ref (cb 5), .ref (cb 6), .ref (cb 7), .ref (cb 8), .ref (cb 9), .ref (cb 10), .ref (cb 11)]]) rfl rfl rfl ?_
            refine v_istore_n X dX8_readCity_49 rfl (by decide) (lv' := [(3, .int (nI 0)), (2, .int (nI x_36)), (1, .int (nI x_26)), (0, .ref k)]) rfl ?_
            refine v_aload_n X dX8_readCity_50 rfl 3 rfl ?_
            refine v_get X kcX8 fl_X8_75 dX8_readCity_51 0 rfl rfl ?_
            refine v_iconst X dX8_readCity_54 (v := nI 5) (by decide) ?_
            refine v_icmpN_ne X dX8_readCity_55 (tgt := 59) (by decide) (by decide) (by decide) (fun h55 => ?_) (fun h55 => ?_)
            · exfalso; omega
            · exact v_vret X Y dX8_readCity_58 (Or.inr ⟨f_46, p_46, pl1_46, sp1_46, wd1_46, nb1_46, (Or.inr ⟨h8, by rw [head_e, hW_26, sb_k, hW_36, sb_k, hW_46, sb_e]⟩), rfl, rfl⟩) (by omega) (by omega)
        · refine ⟨rfl, ?_⟩
          refine V.cast (st' := [.int (nI 0)]) (ws' := [ob k 8 [.int (nI th), .int (nI tr), .int wh, va_rf g, .ref gr7, .ref (q 5), .int (nI (z 6)), .int (nI sz), .int (nI sp1_36), .int (nI 5), .int (nI pl1_36), .int nb1_36, .int (nI f_36), .int (nI p_36), .long wd1_36, .ref (q 15), .ref (q 16), .ref (q 17), .ref (q 18), .int (nI (z 19)), .int (nI (z 20)), .ref (q 21), .long (lN ev), .ref (q 23), .ref (q 24), .int (nI (z 25)), .ref (q 26), .int al, .long wl, .int (nI (z 29))], aB E (q 5) 900 tp, ob gr7 7 [.int bl, .int (nI (cy 1)), .int (nI (cy 2)), .int (nI (cy 3)), .int (nI (cy 4)), .int (nI (cy 5)), .int (nI (cy 6)), .int (nI (cy 7)), .int (nI kp), .int (nI nc), .ref (cb 0), .ref (cb 1), .ref (cb 2), .ref (cb 3), .ref (cb 4), .ref (cb 5), .ref (cb 6), .ref (cb 7), .ref (cb 8), .ref (cb 9), .ref (cb 10), .ref (cb 11)]]) rfl rfl rfl ?_
          refine v_istore_n X dX8_readCity_39 rfl (by decide) (lv' := [(2, .int (nI 0)), (1, .int (nI x_26)), (0, .ref k)]) rfl ?_
          refine v_aload_n X dX8_readCity_40 rfl 2 rfl ?_
          refine v_ldcS X dX8_readCity_41 (i := 8) (tx := "rain") (by decide) ?_
          refine v_iconst X dX8_readCity_43 (v := nI 0) (by decide) ?_
          refine v_bipush X dX8_readCity_44 (v := nI 100) (by decide) ?_
          refine v_roI1 X (rn_V X k_X8_readPart ml_X8_205 dX8_readCity_46 (c_X8_readPart_o l E k th tr wh g (some gr7) q (upN (upN (upN (upN z 7 sz) 8 sp1_36) 10 pl1_36) 12 f_36) nb1_36 (nI p_36) wd1_36 ev al wl 8 0 100 (by decide)) rfl 0 rfl rfl (by decide) (by decide) (by omega) (by omega) (Nat.le_of_ble_eq_true rfl)) [0] rfl rfl ?_
          refine v_istore_n X dX8_readCity_49 rfl (by decide) (lv' := [(3, .int (nI 0)), (2, .int (nI 0)), (1, .int (nI x_26)), (0, .ref k)]) rfl ?_
          refine v_aload_n X dX8_readCity_50 rfl 3 rfl ?_
          refine v_get X kcX8 fl_X8_75 dX8_readCity_51 0 rfl rfl ?_
          refine v_iconst X dX8_readCity_54 (v := nI 5) (by decide) ?_
          refine v_icmpN_ne X dX8_readCity_55 (tgt := 59) (by decide) (by decide) (by decide) (fun h55 => ?_) (fun h55 => ?_)
          · exfalso; omega
          · exact v_vret X Y dX8_readCity_58 (Or.inr ⟨f_36, p_36, pl1_36, sp1_36, wd1_36, nb1_36, (Or.inr ⟨h8, by rw [head_e, hW_26, sb_k, hW_36, sb_e]⟩), rfl, rfl⟩) (by omega) (by omega)
      · refine ⟨rfl, ?_⟩
        refine V.cast (st' := [.int (nI 0)]) (ws' := [ob k 8 [.int (nI th), .int (nI tr), .int wh, va_rf g, .ref gr7, .ref (q 5), .int (nI (z 6)), .int (nI sz), .int (nI sp1_26), .int (nI 5), .int (nI pl1_26), .int nb1_26, .int (nI f_26), .int (nI p_26), .long wd1_26, .ref (q 15), .ref (q 16), .ref (q 17), .ref (q 18), .int (nI (z 19)), .int (nI (z 20)), .ref (q 21), .long (lN ev), .ref (q 23), .ref (q 24), .int (nI (z 25)), .ref (q 26), .int al, .long wl, .int (nI (z 29))], aB E (q 5) 900 tp, ob gr7 7 [.int bl, .int (nI (cy 1)), .int (nI (cy 2)), .int (nI (cy 3)), .int (nI (cy 4)), .int (nI (cy 5)), .int (nI (cy 6)), .int (nI (cy 7)), .int (nI kp), .int (nI nc), .ref (cb 0), .ref (cb 1), .ref (cb 2), .ref (cb 3), .ref (cb 4), .ref (cb 5), .ref (cb 6), .ref (cb 7), .ref (cb 8), .ref (cb 9), .ref (cb 10), .ref (cb 11)]]) rfl rfl rfl ?_
        refine v_istore_n X dX8_readCity_29 rfl (by decide) (lv' := [(1, .int (nI 0)), (0, .ref k)]) rfl ?_
        refine v_aload_n X dX8_readCity_30 rfl 1 rfl ?_
        refine v_ldcS X dX8_readCity_31 (i := 7) (tx := "slips") (by decide) ?_
        refine v_iconst X dX8_readCity_33 (v := nI 0) (by decide) ?_
        refine v_bipush X dX8_readCity_34 (v := nI 100) (by decide) ?_
        refine v_roI1 X (rn_V X k_X8_readPart ml_X8_205 dX8_readCity_36 (c_X8_readPart_o l E k th tr wh g (some gr7) q (upN (upN (upN (upN z 7 sz) 8 sp1_26) 10 pl1_26) 12 f_26) nb1_26 (nI p_26) wd1_26 ev al wl 7 0 100 (by decide)) rfl 0 rfl rfl (by decide) (by decide) (by omega) (by omega) (Nat.le_of_ble_eq_true rfl)) [0] rfl rfl ?_
        refine v_istore_n X dX8_readCity_39 rfl (by decide) (lv' := [(2, .int (nI 0)), (1, .int (nI 0)), (0, .ref k)]) rfl ?_
        refine v_aload_n X dX8_readCity_40 rfl 2 rfl ?_
        refine v_ldcS X dX8_readCity_41 (i := 8) (tx := "rain") (by decide) ?_
        refine v_iconst X dX8_readCity_43 (v := nI 0) (by decide) ?_
        refine v_bipush X dX8_readCity_44 (v := nI 100) (by decide) ?_
        refine v_roI1 X (rn_V X k_X8_readPart ml_X8_205 dX8_readCity_46 (c_X8_readPart_o l E k th tr wh g (some gr7) q (upN (upN (upN (upN z 7 sz) 8 sp1_26) 10 pl1_26) 12 f_26) nb1_26 (nI p_26) wd1_26 ev al wl 8 0 100 (by decide)) rfl 0 rfl rfl (by decide) (by decide) (by omega) (by omega) (Nat.le_of_ble_eq_true rfl)) [0] rfl rfl ?_
        refine v_istore_n X dX8_readCity_49 rfl (by decide) (lv' := [(3, .int (nI 0)), (2, .int (nI 0)), (1, .int (nI 0)), (0, .ref k)]) rfl ?_
        refine v_aload_n X dX8_readCity_50 rfl 3 rfl ?_
        refine v_get X kcX8 fl_X8_75 dX8_readCity_51 0 rfl rfl ?_
        refine v_iconst X dX8_readCity_54 (v := nI 5) (by decide) ?_
        refine v_icmpN_ne X dX8_readCity_55 (tgt := 59) (by decide) (by decide) (by decide) (fun h55 => ?_) (fun h55 => ?_)
        · exfalso; omega
        · exact v_vret X Y dX8_readCity_58 (Or.inr ⟨f_26, p_26, pl1_26, sp1_26, wd1_26, nb1_26, (Or.inr ⟨h8, by rw [head_e, hW_26, sb_e]⟩), rfl, rfl⟩) (by omega) (by omega)
  · refine v_aload_n X dX8_readCity_11 rfl 0 rfl ?_
    refine v_iconst X dX8_readCity_12 (v := nI 3) (by decide) ?_
    refine v_wrV1 X (rn_V X k_X8_flaw ml_X8_118 dX8_readCity_13 (c_X8_flaw l E k th tr wh g (some gr7) q (upN (upN z 7 sz) 8 sp) nb wa wd ev al wl so pl 3 (by omega)) rfl 0 rfl rfl (by decide) (by decide) (by omega) (by omega) (Nat.le_of_ble_eq_true rfl)) [0] rfl rfl (ws' := [ob k 8 [.int (nI th), .int (nI tr), .int wh, va_rf g, .ref gr7, .ref (q 5), .int (nI (z 6)), .int (nI sz), .int (nI sp), .int (nI 5), .int (nI pl), .int nb, .int (nI 3), .int (nI pl), .long wd, .ref (q 15), .ref (q 16), .ref (q 17), .ref (q 18), .int (nI (z 19)), .int (nI (z 20)), .ref (q 21), .long (lN ev), .ref (q 23), .ref (q 24), .int (nI (z 25)), .ref (q 26), .int al, .long wl, .int (nI (z 29))], aB E (q 5) 900 tp, ob gr7 7 [.int bl, .int (nI (cy 1)), .int (nI (cy 2)), .int (nI (cy 3)), .int (nI (cy 4)), .int (nI (cy 5)), .int (nI (cy 6)), .int (nI (cy 7)), .int (nI kp), .int (nI nc), .ref (cb 0), .ref (cb 1), .ref (cb 2), .ref (cb 3), .ref (cb 4), .ref (cb 5), .ref (cb 6), .ref (cb 7), .ref (cb 8), .ref (cb 9), .ref (cb 10), .ref (cb 11)]]) rfl rfl ?_
    refine v_aload_n X dX8_readCity_16 rfl 0 rfl ?_
    refine v_roV1 X (rn_V X k_X8_goesOn ml_X8_111 dX8_readCity_17 (c_X8_goesOn_o l E k th tr wh g (some gr7) q (upN (upN (upN (upN z 7 sz) 8 sp) 10 pl) 12 3) nb (nI pl) wd ev al wl ) rfl 0 rfl rfl (by decide) (by decide) (by omega) (by omega) (Nat.le_of_ble_eq_true rfl)) [0] rfl rfl ?_
    refine v_aload_n X dX8_readCity_20 rfl 0 rfl ?_
    refine v_ldcS X dX8_readCity_21 (i := 6) (tx := "blur") (by decide) ?_
    refine v_iconst X dX8_readCity_23 (v := nI 0) (by decide) ?_
    refine v_bipush X dX8_readCity_24 (v := nI 9) (by decide) ?_
    refine v_roI1 X (rn_V X k_X8_readPart ml_X8_205 dX8_readCity_26 (c_X8_readPart_o l E k th tr wh g (some gr7) q (upN (upN (upN (upN z 7 sz) 8 sp) 10 pl) 12 3) nb (nI pl) wd ev al wl 6 0 9 (by decide)) rfl 0 rfl rfl (by decide) (by decide) (by omega) (by omega) (Nat.le_of_ble_eq_true rfl)) [0] rfl rfl ?_
    refine v_istore_n X dX8_readCity_29 rfl (by decide) (lv' := [(1, .int (nI 0)), (0, .ref k)]) rfl ?_
    refine v_aload_n X dX8_readCity_30 rfl 1 rfl ?_
    refine v_ldcS X dX8_readCity_31 (i := 7) (tx := "slips") (by decide) ?_
    refine v_iconst X dX8_readCity_33 (v := nI 0) (by decide) ?_
    refine v_bipush X dX8_readCity_34 (v := nI 100) (by decide) ?_
    refine v_roI1 X (rn_V X k_X8_readPart ml_X8_205 dX8_readCity_36 (c_X8_readPart_o l E k th tr wh g (some gr7) q (upN (upN (upN (upN z 7 sz) 8 sp) 10 pl) 12 3) nb (nI pl) wd ev al wl 7 0 100 (by decide)) rfl 0 rfl rfl (by decide) (by decide) (by omega) (by omega) (Nat.le_of_ble_eq_true rfl)) [0] rfl rfl ?_
    refine v_istore_n X dX8_readCity_39 rfl (by decide) (lv' := [(2, .int (nI 0)), (1, .int (nI 0)), (0, .ref k)]) rfl ?_
    refine v_aload_n X dX8_readCity_40 rfl 2 rfl ?_
    refine v_ldcS X dX8_readCity_41 (i := 8) (tx := "rain") (by decide) ?_
    refine v_iconst X dX8_readCity_43 (v := nI 0) (by decide) ?_
    refine v_bipush X dX8_readCity_44 (v := nI 100) (by decide) ?_
    refine v_roI1 X (rn_V X k_X8_readPart ml_X8_205 dX8_readCity_46 (c_X8_readPart_o l E k th tr wh g (some gr7) q (upN (upN (upN (upN z 7 sz) 8 sp) 10 pl) 12 3) nb (nI pl) wd ev al wl 8 0 100 (by decide)) rfl 0 rfl rfl (by decide) (by decide) (by omega) (by omega) (Nat.le_of_ble_eq_true rfl)) [0] rfl rfl ?_
    refine v_istore_n X dX8_readCity_49 rfl (by decide) (lv' := [(3, .int (nI 0)), (2, .int (nI 0)), (1, .int (nI 0)), (0, .ref k)]) rfl ?_
    refine v_aload_n X dX8_readCity_50 rfl 3 rfl ?_
    refine v_get X kcX8 fl_X8_75 dX8_readCity_51 0 rfl rfl ?_
    refine v_iconst X dX8_readCity_54 (v := nI 5) (by decide) ?_
    refine v_icmpN_ne X dX8_readCity_55 (tgt := 59) (by decide) (by decide) (by decide) (fun h55 => ?_) (fun h55 => ?_)
    · exfalso; omega
    · exact v_vret X Y dX8_readCity_58 (Or.inr ⟨3, pl, pl, sp, wd, nb, (Or.inl ⟨h8, rfl, hT8.1⟩), rfl, rfl⟩) (by omega) (by omega)
