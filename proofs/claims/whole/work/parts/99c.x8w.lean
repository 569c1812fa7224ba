set_option maxRecDepth 100000 in
set_option maxHeartbeats 4000000 in
theorem c_X8_isName_o (l : Launch) (E : Et) (k : Nat) (th : Nat) (tr : Nat) (wh : Int32) (g : Option Nat) (rr : Option Nat) (q : Nat → Nat) (z : Nat → Nat) (nb : Int32) (wa : Int32) (wd : Int64) (ev : Nat) (al : Int32) (wl : Int64)  : Ct l E yX8_isName cX8_isName 1 (some .boolean) 6 0 0 [.ref k] [ob k 8 [.int (nI th), .int (nI tr), .int wh, va_rf g, va_rf rr, .ref (q 5), .int (nI (z 6)), .int (nI (z 7)), .int (nI (z 8)), .int (nI 5), .int (nI (z 10)), .int nb, .int (nI (z 12)), .int wa, .long wd, .ref (q 15), .ref (q 16), .ref (q 17), .ref (q 18), .int (nI (z 19)), .int (nI (z 20)), .ref (q 21), .long (lN ev), .ref (q 23), .ref (q 24), .int (nI (z 25)), .ref (q 26), .int al, .long wl, .int (nI (z 29))]] (roI [ob k 8 [.int (nI th), .int (nI tr), .int wh, va_rf g, va_rf rr, .ref (q 5), .int (nI (z 6)), .int (nI (z 7)), .int (nI (z 8)), .int (nI 5), .int (nI (z 10)), .int nb, .int (nI (z 12)), .int wa, .long wd, .ref (q 15), .ref (q 16), .ref (q 17), .ref (q 18), .int (nI (z 19)), .int (nI (z 20)), .ref (q 21), .long (lN ev), .ref (q 23), .ref (q 24), .int (nI (z 25)), .ref (q 26), .int al, .long wl, .int (nI (z 29))]] (nI 0)) := by
  refine Ct.intro (by decide +kernel) (Nat.le_of_ble_eq_true rfl) (lv := [(0, .ref k)]) rfl ?_
  intro Z X Y
  refine v_aload_n X dX8_isName_0 rfl 0 rfl ?_
  refine v_get X kcX8 fl_X8_75 dX8_isName_1 0 rfl rfl ?_
  refine v_iconst X dX8_isName_4 (v := nI 2) (by decide) ?_
  refine v_icmpN_ne X dX8_isName_5 (tgt := 35) (by decide) (by decide) (by decide) (fun h5 => ?_) (fun h5 => ?_)
  · refine v_iconst X dX8_isName_35 (v := nI 0) (by decide) ?_
    exact v_zret X Y dX8_isName_36 (by decide) (roI_of rfl) (by omega) (by omega)
  · exfalso; omega
set_option maxRecDepth 100000 in
set_option maxHeartbeats 4000000 in
theorem c_X8_isNameL (l : Launch) (E : Et) (k : Nat) (th : Nat) (tr : Nat) (wh : Int32) (g : Option Nat) (rr : Option Nat) (q : Nat → Nat) (z : Nat → Nat) (nb : Int32) (wa : Int32) (wd : Int64) (ev : Nat) (al : Int32) (wl : Int64) (sz : Nat) (sp : Nat) (so : Nat) (pl : Nat) (tp : Nat → Int32) (tk : Tk) (kwd : Nat → Int64) (hkw : ∀ s, s < 6 → kwd s = lN (pkS 27 s)) (hT8 : T8 tk so pl sp wd nb) (hso : so ≤ 4) : Ct l E yX8_isName cX8_isName 1 (some .boolean) 6 0 0 [.ref k] [ob k 8 [.int (nI th), .int (nI tr), .int wh, va_rf g, va_rf rr, .ref (q 5), .int (nI (z 6)), .int (nI sz), .int (nI sp), .int (nI so), .int (nI pl), .int nb, .int (nI (z 12)), .int wa, .long wd, .ref (q 15), .ref (q 16), .ref (q 17), .ref (q 18), .int (nI (z 19)), .int (nI (z 20)), .ref (q 21), .long (lN ev), .ref (q 23), .ref (q 24), .int (nI (z 25)), .ref (q 26), .int al, .long wl, .int (nI (z 29))]] (roI [ob k 8 [.int (nI th), .int (nI tr), .int wh, va_rf g, va_rf rr, .ref (q 5), .int (nI (z 6)), .int (nI sz), .int (nI sp), .int (nI so), .int (nI pl), .int nb, .int (nI (z 12)), .int wa, .long wd, .ref (q 15), .ref (q 16), .ref (q 17), .ref (q 18), .int (nI (z 19)), .int (nI (z 20)), .ref (q 21), .long (lN ev), .ref (q 23), .ref (q 24), .int (nI (z 25)), .ref (q 26), .int al, .long wl, .int (nI (z 29))]] (nI (decide (tk.1 = 1 ∧ fst_ (lsP tk.1 tk.2.2.2 kwd) 6 0 = none)).toNat)) := by
  refine Ct.intro (by decide +kernel) (Nat.le_of_ble_eq_true rfl) (lv := [(0, .ref k)]) rfl ?_
  intro Z X Y
  refine v_aload_n X dX8_isName_0 rfl 0 rfl ?_
  refine v_get X kcX8 fl_X8_75 dX8_isName_1 0 rfl rfl ?_
  refine v_iconst X dX8_isName_4 (v := nI 2) (by decide) ?_
  refine v_icmpN_ne X dX8_isName_5 (tgt := 35) (by decide) (by omega) (by decide) (fun h5 => ?_) (fun h5 => ?_)
  · refine v_iconst X dX8_isName_35 (v := nI 0) (by decide) ?_
    exact v_zret X Y dX8_isName_36 (by decide) (roI_of (bo0 (decide_eq_false (fun z => h5 ((t8_2 hT8).mpr z.1))))) (by omega) (by omega)
  · refine v_aload_n X dX8_isName_8 rfl 0 rfl ?_
    refine v_ldcS X dX8_isName_9 (i := 0) (tx := "city") (by decide) ?_
    refine v_roI1 X (rn_V X k_X8_isWord ml_X8_114 dX8_isName_11 (c_X8_isWord l E k th tr wh g rr q (upN (upN (upN z 7 sz) 8 sp) 10 pl) nb wa wd ev al wl so 0 (by decide) (by omega)) rfl 0 rfl rfl (by decide) (by decide) (by omega) (by omega) (Nat.le_of_ble_eq_true rfl)) [0] rfl rfl ?_
    refine v_ifB_ne X dX8_isName_14 (tgt := 35) (by decide) (fun h14 => ?_) (fun h14 => ?_)
    · refine v_iconst X dX8_isName_35 (v := nI 0) (by decide) ?_
      exact v_zret X Y dX8_isName_36 (by decide) (roI_of (bo0 (decide_eq_false (nm_f hT8 hkw (show 0 < 6 by decide) h14)))) (by omega) (by omega)
    · refine v_aload_n X dX8_isName_17 rfl 0 rfl ?_
      refine v_ldcS X dX8_isName_18 (i := 1) (tx := "man") (by decide) ?_
      refine v_roI1 X (rn_V X k_X8_isWord ml_X8_114 dX8_isName_20 (c_X8_isWord l E k th tr wh g rr q (upN (upN (upN z 7 sz) 8 sp) 10 pl) nb wa wd ev al wl so 1 (by decide) (by omega)) rfl 0 rfl rfl (by decide) (by decide) (by omega) (by omega) (Nat.le_of_ble_eq_true rfl)) [0] rfl rfl ?_
      refine v_ifB_ne X dX8_isName_23 (tgt := 35) (by decide) (fun h23 => ?_) (fun h23 => ?_)
      · refine v_iconst X dX8_isName_35 (v := nI 0) (by decide) ?_
        exact v_zret X Y dX8_isName_36 (by decide) (roI_of (bo0 (decide_eq_false (nm_f hT8 hkw (show 1 < 6 by decide) h23)))) (by omega) (by omega)
      · refine v_aload_n X dX8_isName_26 rfl 0 rfl ?_
        refine v_ldcS X dX8_isName_27 (i := 2) (tx := "deed") (by decide) ?_
        refine v_roI1 X (rn_V X k_X8_isWord ml_X8_114 dX8_isName_29 (c_X8_isWord l E k th tr wh g rr q (upN (upN (upN z 7 sz) 8 sp) 10 pl) nb wa wd ev al wl so 2 (by decide) (by omega)) rfl 0 rfl rfl (by decide) (by decide) (by omega) (by omega) (Nat.le_of_ble_eq_true rfl)) [0] rfl rfl ?_
        refine v_ifB_eq X dX8_isName_32 (tgt := 37) (by decide) (fun h32 => ?_) (fun h32 => ?_)
        · refine v_aload_n X dX8_isName_37 rfl 0 rfl ?_
          refine v_ldcS X dX8_isName_38 (i := 3) (tx := "clause") (by decide) ?_
          refine v_roI1 X (rn_V X k_X8_isWord ml_X8_114 dX8_isName_40 (c_X8_isWord l E k th tr wh g rr q (upN (upN (upN z 7 sz) 8 sp) 10 pl) nb wa wd ev al wl so 3 (by decide) (by omega)) rfl 0 rfl rfl (by decide) (by decide) (by omega) (by omega) (Nat.le_of_ble_eq_true rfl)) [0] rfl rfl ?_
          refine v_ifB_ne X dX8_isName_43 (tgt := 68) (by decide) (fun h43 => ?_) (fun h43 => ?_)
          · refine v_iconst X dX8_isName_68 (v := nI 0) (by decide) ?_
            exact v_zret X Y dX8_isName_69 (by decide) (roI_of (bo0 (decide_eq_false (nm_f hT8 hkw (show 3 < 6 by decide) h43)))) (by omega) (by omega)
          · refine v_aload_n X dX8_isName_46 rfl 0 rfl ?_
            refine v_ldcS X dX8_isName_47 (i := 4) (tx := "unsure") (by decide) ?_
            refine v_roI1 X (rn_V X k_X8_isWord ml_X8_114 dX8_isName_49 (c_X8_isWord l E k th tr wh g rr q (upN (upN (upN z 7 sz) 8 sp) 10 pl) nb wa wd ev al wl so 4 (by decide) (by omega)) rfl 0 rfl rfl (by decide) (by decide) (by omega) (by omega) (Nat.le_of_ble_eq_true rfl)) [0] rfl rfl ?_
            refine v_ifB_ne X dX8_isName_52 (tgt := 68) (by decide) (fun h52 => ?_) (fun h52 => ?_)
            · refine v_iconst X dX8_isName_68 (v := nI 0) (by decide) ?_
              exact v_zret X Y dX8_isName_69 (by decide) (roI_of (bo0 (decide_eq_false (nm_f hT8 hkw (show 4 < 6 by decide) h52)))) (by omega) (by omega)
            · refine v_aload_n X dX8_isName_55 rfl 0 rfl ?_
              refine v_ldcS X dX8_isName_56 (i := 5) (tx := "did") (by decide) ?_
              refine v_roI1 X (rn_V X k_X8_isWord ml_X8_114 dX8_isName_58 (c_X8_isWord l E k th tr wh g rr q (upN (upN (upN z 7 sz) 8 sp) 10 pl) nb wa wd ev al wl so 5 (by decide) (by omega)) rfl 0 rfl rfl (by decide) (by decide) (by omega) (by omega) (Nat.le_of_ble_eq_true rfl)) [0] rfl rfl ?_
              refine v_ifB_ne X dX8_isName_61 (tgt := 68) (by decide) (fun h61 => ?_) (fun h61 => ?_)
              · refine v_iconst X dX8_isName_68 (v := nI 0) (by decide) ?_
                exact v_zret X Y dX8_isName_69 (by decide) (roI_of (bo0 (decide_eq_false (nm_f hT8 hkw (show 5 < 6 by decide) h61)))) (by omega) (by omega)
              · refine v_iconst X dX8_isName_64 (v := nI 1) (by decide) ?_
                refine v_goto X dX8_isName_65 (tgt := 69) (by decide) ?_
                exact v_zret X Y dX8_isName_69 (by decide) (roI_of (bo1 (decide_eq_true (nm_t hT8 hkw h5 (six h14 h23 h32 h43 h52 h61))))) (by omega) (by omega)
        · refine v_iconst X dX8_isName_35 (v := nI 0) (by decide) ?_
          exact v_zret X Y dX8_isName_36 (by decide) (roI_of (bo0 (decide_eq_false (nm_f hT8 hkw (show 2 < 6 by decide) h32)))) (by omega) (by omega)
set_option maxRecDepth 100000 in
set_option maxHeartbeats 4000000 in
theorem c_X8_eats_o (l : Launch) (E : Et) (k : Nat) (th : Nat) (tr : Nat) (wh : Int32) (g : Option Nat) (rr : Option Nat) (q : Nat → Nat) (z : Nat → Nat) (nb : Int32) (wa : Int32) (wd : Int64) (ev : Nat) (al : Int32) (wl : Int64) (c : Nat)  : Ct l E yX8_eats cX8_eats 3 (some .boolean) 2 0 0 [.ref k, .int (nI c)] [ob k 8 [.int (nI th), .int (nI tr), .int wh, va_rf g, va_rf rr, .ref (q 5), .int (nI (z 6)), .int (nI (z 7)), .int (nI (z 8)), .int (nI 5), .int (nI (z 10)), .int nb, .int (nI (z 12)), .int wa, .long wd, .ref (q 15), .ref (q 16), .ref (q 17), .ref (q 18), .int (nI (z 19)), .int (nI (z 20)), .ref (q 21), .long (lN ev), .ref (q 23), .ref (q 24), .int (nI (z 25)), .ref (q 26), .int al, .long wl, .int (nI (z 29))]] (roI [ob k 8 [.int (nI th), .int (nI tr), .int wh, va_rf g, va_rf rr, .ref (q 5), .int (nI (z 6)), .int (nI (z 7)), .int (nI (z 8)), .int (nI 5), .int (nI (z 10)), .int nb, .int (nI (z 12)), .int wa, .long wd, .ref (q 15), .ref (q 16), .ref (q 17), .ref (q 18), .int (nI (z 19)), .int (nI (z 20)), .ref (q 21), .long (lN ev), .ref (q 23), .ref (q 24), .int (nI (z 25)), .ref (q 26), .int al, .long wl, .int (nI (z 29))]] (nI 0)) := by
  refine Ct.intro (by decide +kernel) (Nat.le_of_ble_eq_true rfl) (lv := [(0, .ref k), (1, .int (nI c))]) rfl ?_
  intro Z X Y
  refine v_aload_n X dX8_eats_0 rfl 0 rfl ?_
  refine v_get X kcX8 fl_X8_75 dX8_eats_1 0 rfl rfl ?_
  refine v_iconst X dX8_eats_4 (v := nI 4) (by decide) ?_
  refine v_icmpN_ne X dX8_eats_5 (tgt := 20) (by decide) (by decide) (by decide) (fun h5 => ?_) (fun h5 => ?_)
  · refine v_iconst X dX8_eats_20 (v := nI 0) (by decide) ?_
    refine v_istore_n X dX8_eats_21 rfl (by decide) (lv' := [(2, .int (nI 0)), (0, .ref k), (1, .int (nI c))]) rfl ?_
    refine v_iload_n X dX8_eats_22 rfl 0 rfl ?_
    refine v_ifN_eq X dX8_eats_23 (tgt := 30) (by decide) (by decide) (fun h23 => ?_) (fun h23 => ?_)
    · refine v_iload_n X dX8_eats_30 rfl 0 rfl ?_
      exact v_zret X Y dX8_eats_31 (by decide) (roI_of rfl) (by omega) (by omega)
    · exfalso; omega
  · exfalso; omega
set_option maxRecDepth 100000 in
set_option maxHeartbeats 4000000 in
theorem c_X8_eatsL (l : Launch) (E : Et) (k : Nat) (th : Nat) (tr : Nat) (wh : Int32) (g : Option Nat) (rr : Option Nat) (q : Nat → Nat) (z : Nat → Nat) (nb : Int32) (wa : Int32) (wd : Int64) (ev : Nat) (al : Int32) (wl : Int64) (sz : Nat) (sp : Nat) (so : Nat) (pl : Nat) (tp : Nat → Int32) (tk : Tk) (c : Nat) (kd : Nat) (hT8 : T8 tk so pl sp wd nb) (htO : tkO sz tk) (hso : so ≤ 4) (hsz : sz ≤ 900) (hby : byT tp) (hck : (c = 59 ∧ kd = 3) ∨ (c = 44 ∧ kd = 4)) : Ct l E yX8_eats cX8_eats 3 (some .boolean) 2 0 0 [.ref k, .int (nI c)] [ob k 8 [.int (nI th), .int (nI tr), .int wh, va_rf g, va_rf rr, .ref (q 5), .int (nI (z 6)), .int (nI sz), .int (nI sp), .int (nI so), .int (nI pl), .int nb, .int (nI (z 12)), .int wa, .long wd, .ref (q 15), .ref (q 16), .ref (q 17), .ref (q 18), .int (nI (z 19)), .int (nI (z 20)), .ref (q 21), .long (lN ev), .ref (q 23), .ref (q 24), .int (nI (z 25)), .ref (q 26), .int al, .long wl, .int (nI (z 29))], aB E (q 5) 900 tp] ((fun r w => (∃ (tk1 : Tk) (so1 : Nat) (pl1 : Nat) (sp1 : Nat) (wd1 : Int64) (nb1 : Int32), (tk.1 = kd) ∧ (advK tp sz tk = tk1) ∧ (T8 tk1 so1 pl1 sp1 wd1 nb1) ∧ (tkO sz tk1) ∧ (so1 ≤ 4) ∧ w = [ob k 8 [.int (nI th), .int (nI tr), .int wh, va_rf g, va_rf rr, .ref (q 5), .int (nI (z 6)), .int (nI sz), .int (nI sp1), .int (nI so1), .int (nI pl1), .int nb1, .int (nI (z 12)), .int wa, .long wd1, .ref (q 15), .ref (q 16), .ref (q 17), .ref (q 18), .int (nI (z 19)), .int (nI (z 20)), .ref (q 21), .long (lN ev), .ref (q 23), .ref (q 24), .int (nI (z 25)), .ref (q 26), .int al, .long wl, .int (nI (z 29))], aB E (q 5) 900 tp] ∧ r = some (.int (nI 1))) ∨ ((¬ tk.1 = kd) ∧ w = [ob k 8 [.int (nI th), .int (nI tr), .int wh, va_rf g, va_rf rr, .ref (q 5), .int (nI (z 6)), .int (nI sz), .int (nI sp), .int (nI so), .int (nI pl), .int nb, .int (nI (z 12)), .int wa, .long wd, .ref (q 15), .ref (q 16), .ref (q 17), .ref (q 18), .int (nI (z 19)), .int (nI (z 20)), .ref (q 21), .long (lN ev), .ref (q 23), .ref (q 24), .int (nI (z 25)), .ref (q 26), .int al, .long wl, .int (nI (z 29))], aB E (q 5) 900 tp] ∧ r = some (.int (nI 0))))) := by
  refine Ct.intro (by decide +kernel) (Nat.le_of_ble_eq_true rfl) (lv := [(0, .ref k), (1, .int (nI c))]) rfl ?_
  intro Z X Y
  refine v_aload_n X dX8_eats_0 rfl 0 rfl ?_
  refine v_get X kcX8 fl_X8_75 dX8_eats_1 0 rfl rfl ?_
  refine v_iconst X dX8_eats_4 (v := nI 4) (by decide) ?_
  refine v_icmpN_ne X dX8_eats_5 (tgt := 20) (by decide) (by omega) (by decide) (fun h5 => ?_) (fun h5 => ?_)
  · refine v_iconst X dX8_eats_20 (v := nI 0) (by decide) ?_
    refine v_istore_n X dX8_eats_21 rfl (by decide) (lv' := [(2, .int (nI 0)), (0, .ref k), (1, .int (nI c))]) rfl ?_
    refine v_iload_n X dX8_eats_22 rfl 0 rfl ?_
    refine v_ifN_eq X dX8_eats_23 (tgt := 30) (by decide) (by decide) (fun h23 => ?_) (fun h23 => ?_)
    · refine v_iload_n X dX8_eats_30 rfl 0 rfl ?_
      exact v_zret X Y dX8_eats_31 (by decide) (Or.inr ⟨(fun z => h5 ((t8_sg hT8 hck).mpr z).1), rfl, rfl⟩) (by omega) (by omega)
    · exfalso; omega
  · refine v_aload_n X dX8_eats_8 rfl 0 rfl ?_
    refine v_get X kcX8 fl_X8_98 dX8_eats_9 0 rfl rfl ?_
    refine v_iload_n X dX8_eats_12 rfl 1 rfl ?_
    refine v_icmp_ne X dX8_eats_13 (tgt := 20) (by decide) (fun h13 => ?_) (fun h13 => ?_)
    · refine v_iconst X dX8_eats_20 (v := nI 0) (by decide) ?_
      refine v_istore_n X dX8_eats_21 rfl (by decide) (lv' := [(2, .int (nI 0)), (0, .ref k), (1, .int (nI c))]) rfl ?_
      refine v_iload_n X dX8_eats_22 rfl 0 rfl ?_
      refine v_ifN_eq X dX8_eats_23 (tgt := 30) (by decide) (by decide) (fun h23 => ?_) (fun h23 => ?_)
      · refine v_iload_n X dX8_eats_30 rfl 0 rfl ?_
        exact v_zret X Y dX8_eats_31 (by decide) (Or.inr ⟨(fun z => h13 ((t8_sg hT8 hck).mpr z).2), rfl, rfl⟩) (by omega) (by omega)
      · exfalso; omega
    · have hspe : sp = tk.2.2.1 := t8_sp hT8 (by omega)
      refine v_iconst X dX8_eats_16 (v := nI 1) (by decide) ?_
      refine v_goto X dX8_eats_17 (tgt := 21) (by decide) ?_
      refine v_istore_n X dX8_eats_21 rfl (by decide) (lv' := [(2, .int (nI 1)), (0, .ref k), (1, .int (nI c))]) rfl ?_
      refine v_iload_n X dX8_eats_22 rfl 0 rfl ?_
      refine v_ifN_eq X dX8_eats_23 (tgt := 30) (by decide) (by decide) (fun h23 => ?_) (fun h23 => ?_)
      · exfalso; omega
      · refine v_aload_n X dX8_eats_26 rfl 1 rfl ?_
        refine v_wr X (rn_V X k_X8_goesOn ml_X8_111 dX8_eats_27 (c_X8_goesOnL l E k th tr wh g rr q z nb wa wd ev al wl sz sp so pl tp tk.2.2.2 (by omega) (by first | assumption | omega) (by rw [hspe]; exact htO.2.2.1) (by first | assumption | omega)) rfl 0 rfl rfl (by decide) (by decide) (by omega) (by omega) (Nat.le_of_ble_eq_true rfl)) [0, 1] rfl rfl (fun r w1 hpo => ?_)
        rcases hpo with ⟨so1_27, pl1_27, sp1_27, wd1_27, nb1_27, hT8_27, hs1_27, hs4_27, rfl, rfl⟩
        · refine ⟨rfl, ?_⟩
          refine V.cast (st' := []) (ws' := [ob k 8 [.int (nI th), .int (nI tr), .int wh, va_rf g, va_rf rr, .ref (q 5), .int (nI (z 6)), .int (nI sz), .int (nI sp1_27), .int (nI so1_27), .int (nI pl1_27), .int nb1_27, .int (nI (z 12)), .int wa, .long wd1_27, .ref (q 15), .ref (q 16), .ref (q 17), .ref (q 18), .int (nI (z 19)), .int (nI (z 20)), .ref (q 21), .long (lN ev), .ref (q 23), .ref (q 24), .int (nI (z 25)), .ref (q 26), .int al, .long wl, .int (nI (z 29))], aB E (q 5) 900 tp]) rfl rfl rfl ?_
          refine v_iload_n X dX8_eats_30 rfl 0 rfl ?_
          exact v_zret X Y dX8_eats_31 (by decide) (Or.inl ⟨(advK tp sz tk), so1_27, pl1_27, sp1_27, wd1_27, nb1_27, ((t8_sg hT8 hck).mp ⟨h5, h13⟩), (rfl), (by have h9 := hT8_27; rw [hspe] at h9; exact h9), ((advK_ok htO).1), (hs4_27), rfl, rfl⟩) (by omega) (by omega)
