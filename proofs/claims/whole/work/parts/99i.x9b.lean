theorem fo8 {k : Tk} {so pl sp n : Nat} {wd : Int64} {nb : Int32} (h : T8 k so pl sp wd nb) (hn : n < 20) : decide (so = 2 ∧ wd = lN (pkS 32 n)) = decide (k.1 = 1 ∧ k.2.2.2 = lN (pkS 27 n)) := by
  have := t8_is h hn
  by_cases z : k.1 = 1 ∧ k.2.2.2 = lN (pkS 27 n)
  · rw [decide_eq_true z, decide_eq_true (this.mpr z)]
  · rw [decide_eq_false z, decide_eq_false (fun y => z (this.mp y))]
set_option maxRecDepth 100000 in
set_option maxHeartbeats 4000000 in
theorem c_X8_formAtHand_o (l : Launch) (E : Et) (k : Nat) (th : Nat) (tr : Nat) (wh : Int32) (g : Option Nat) (rr : Option Nat) (q : Nat → Nat) (z : Nat → Nat) (nb : Int32) (wa : Int32) (wd : Int64) (ev : Nat) (al : Int32) (wl : Int64)  : Ct l E yX8_formAtHand cX8_formAtHand 1 (some .int) 6 0 0 [.ref k] [ob k 8 [.int (nI th), .int (nI tr), .int wh, va_rf g, va_rf rr, .ref (q 5), .int (nI (z 6)), .int (nI (z 7)), .int (nI (z 8)), .int (nI 5), .int (nI (z 10)), .int nb, .int (nI (z 12)), .int wa, .long wd, .ref (q 15), .ref (q 16), .ref (q 17), .ref (q 18), .int (nI (z 19)), .int (nI (z 20)), .ref (q 21), .long (lN ev), .ref (q 23), .ref (q 24), .int (nI (z 25)), .ref (q 26), .int al, .long wl, .int (nI (z 29))]] (roI [ob k 8 [.int (nI th), .int (nI tr), .int wh, va_rf g, va_rf rr, .ref (q 5), .int (nI (z 6)), .int (nI (z 7)), .int (nI (z 8)), .int (nI 5), .int (nI (z 10)), .int nb, .int (nI (z 12)), .int wa, .long wd, .ref (q 15), .ref (q 16), .ref (q 17), .ref (q 18), .int (nI (z 19)), .int (nI (z 20)), .ref (q 21), .long (lN ev), .ref (q 23), .ref (q 24), .int (nI (z 25)), .ref (q 26), .int al, .long wl, .int (nI (z 29))]] (-1)) := by
  refine Ct.intro (by decide +kernel) (Nat.le_of_ble_eq_true rfl) (lv := [(0, .ref k)]) rfl ?_
  intro Z X Y
  refine v_aload_n X dX8_formAtHand_0 rfl 0 rfl ?_
  refine v_ldcS X dX8_formAtHand_1 (i := 11) (tx := "must") (by decide) ?_
  refine v_roI1 X (rn_V X k_X8_isWord ml_X8_114 dX8_formAtHand_3 (c_X8_isWord l E k th tr wh g rr q z nb wa wd ev al wl 5 11 (by decide) (by decide)) rfl 0 rfl rfl (by decide) (by decide) (by omega) (by omega) (Nat.le_of_ble_eq_true rfl)) [0] rfl rfl ?_
  refine v_ifB_eq X dX8_formAtHand_6 (tgt := 11) (by decide) (fun h6 => ?_) (fun h6 => ?_)
  · refine v_aload_n X dX8_formAtHand_11 rfl 0 rfl ?_
    refine v_ldcS X dX8_formAtHand_12 (i := 12) (tx := "mustnt") (by decide) ?_
    refine v_roI1 X (rn_V X k_X8_isWord ml_X8_114 dX8_formAtHand_14 (c_X8_isWord l E k th tr wh g rr q z nb wa wd ev al wl 5 12 (by decide) (by decide)) rfl 0 rfl rfl (by decide) (by decide) (by omega) (by omega) (Nat.le_of_ble_eq_true rfl)) [0] rfl rfl ?_
    refine v_ifB_eq X dX8_formAtHand_17 (tgt := 22) (by decide) (fun h17 => ?_) (fun h17 => ?_)
    · refine v_aload_n X dX8_formAtHand_22 rfl 0 rfl ?_
      refine v_ldcS X dX8_formAtHand_23 (i := 13) (tx := "if") (by decide) ?_
      refine v_roI1 X (rn_V X k_X8_isWord ml_X8_114 dX8_formAtHand_25 (c_X8_isWord l E k th tr wh g rr q z nb wa wd ev al wl 5 13 (by decide) (by decide)) rfl 0 rfl rfl (by decide) (by decide) (by omega) (by omega) (Nat.le_of_ble_eq_true rfl)) [0] rfl rfl ?_
      refine v_ifB_eq X dX8_formAtHand_28 (tgt := 33) (by decide) (fun h28 => ?_) (fun h28 => ?_)
      · refine v_aload_n X dX8_formAtHand_33 rfl 0 rfl ?_
        refine v_ldcS X dX8_formAtHand_34 (i := 14) (tx := "unless") (by decide) ?_
        refine v_roI1 X (rn_V X k_X8_isWord ml_X8_114 dX8_formAtHand_36 (c_X8_isWord l E k th tr wh g rr q z nb wa wd ev al wl 5 14 (by decide) (by decide)) rfl 0 rfl rfl (by decide) (by decide) (by omega) (by omega) (Nat.le_of_ble_eq_true rfl)) [0] rfl rfl ?_
        refine v_ifB_eq X dX8_formAtHand_39 (tgt := 44) (by decide) (fun h39 => ?_) (fun h39 => ?_)
        · refine v_aload_n X dX8_formAtHand_44 rfl 0 rfl ?_
          refine v_ldcS X dX8_formAtHand_45 (i := 15) (tx := "notboth") (by decide) ?_
          refine v_roI1 X (rn_V X k_X8_isWord ml_X8_114 dX8_formAtHand_47 (c_X8_isWord l E k th tr wh g rr q z nb wa wd ev al wl 5 15 (by decide) (by decide)) rfl 0 rfl rfl (by decide) (by decide) (by omega) (by omega) (Nat.le_of_ble_eq_true rfl)) [0] rfl rfl ?_
          refine v_ifB_eq X dX8_formAtHand_50 (tgt := 57) (by decide) (fun h50 => ?_) (fun h50 => ?_)
          · refine v_aload_n X dX8_formAtHand_57 rfl 0 rfl ?_
            refine v_ldcS X dX8_formAtHand_58 (i := 16) (tx := "either") (by decide) ?_
            refine v_roI1 X (rn_V X k_X8_isWord ml_X8_114 dX8_formAtHand_60 (c_X8_isWord l E k th tr wh g rr q z nb wa wd ev al wl 5 16 (by decide) (by decide)) rfl 0 rfl rfl (by decide) (by decide) (by omega) (by omega) (Nat.le_of_ble_eq_true rfl)) [0] rfl rfl ?_
            refine v_ifB_eq X dX8_formAtHand_63 (tgt := 70) (by decide) (fun h63 => ?_) (fun h63 => ?_)
            · refine v_iconst X dX8_formAtHand_70 (v := (-1)) (by decide) ?_
              exact v_iret X Y dX8_formAtHand_71 (roI_of rfl) (by omega) (by omega)
            · exact absurd (of_decide_eq_true h63).1 (by decide)
          · exact absurd (of_decide_eq_true h50).1 (by decide)
        · exact absurd (of_decide_eq_true h39).1 (by decide)
      · exact absurd (of_decide_eq_true h28).1 (by decide)
    · exact absurd (of_decide_eq_true h17).1 (by decide)
  · exact absurd (of_decide_eq_true h6).1 (by decide)
set_option maxRecDepth 100000 in
set_option maxHeartbeats 4000000 in
theorem c_X8_formAtHandL (l : Launch) (E : Et) (k : Nat) (th : Nat) (tr : Nat) (wh : Int32) (g : Option Nat) (rr : Option Nat) (q : Nat → Nat) (z : Nat → Nat) (nb : Int32) (wa : Int32) (wd : Int64) (ev : Nat) (al : Int32) (wl : Int64) (sz : Nat) (sp : Nat) (so : Nat) (pl : Nat) (tp : Nat → Int32) (tk : Tk) (hT8 : T8 tk so pl sp wd nb) (hso : so ≤ 4) : Ct l E yX8_formAtHand cX8_formAtHand 1 (some .int) 6 0 0 [.ref k] [ob k 8 [.int (nI th), .int (nI tr), .int wh, va_rf g, va_rf rr, .ref (q 5), .int (nI (z 6)), .int (nI sz), .int (nI sp), .int (nI so), .int (nI pl), .int nb, .int (nI (z 12)), .int wa, .long wd, .ref (q 15), .ref (q 16), .ref (q 17), .ref (q 18), .int (nI (z 19)), .int (nI (z 20)), .ref (q 21), .long (lN ev), .ref (q 23), .ref (q 24), .int (nI (z 25)), .ref (q 26), .int al, .long wl, .int (nI (z 29))]] (roI [ob k 8 [.int (nI th), .int (nI tr), .int wh, va_rf g, va_rf rr, .ref (q 5), .int (nI (z 6)), .int (nI sz), .int (nI sp), .int (nI so), .int (nI pl), .int nb, .int (nI (z 12)), .int wa, .long wd, .ref (q 15), .ref (q 16), .ref (q 17), .ref (q 18), .int (nI (z 19)), .int (nI (z 20)), .ref (q 21), .long (lN ev), .ref (q 23), .ref (q 24), .int (nI (z 25)), .ref (q 26), .int al, .long wl, .int (nI (z 29))]] (optJ (fst_ (foP tk.1 tk.2.2.2) 6 0))) := by
  refine Ct.intro (by decide +kernel) (Nat.le_of_ble_eq_true rfl) (lv := [(0, .ref k)]) rfl ?_
  intro Z X Y
  refine v_aload_n X dX8_formAtHand_0 rfl 0 rfl ?_
  refine v_ldcS X dX8_formAtHand_1 (i := 11) (tx := "must") (by decide) ?_
  refine v_roI1 X (rn_V X k_X8_isWord ml_X8_114 dX8_formAtHand_3 (c_X8_isWord l E k th tr wh g rr q (upN (upN (upN z 7 sz) 8 sp) 10 pl) nb wa wd ev al wl so 11 (by decide) (by omega)) rfl 0 rfl rfl (by decide) (by decide) (by omega) (by omega) (Nat.le_of_ble_eq_true rfl)) [0] rfl rfl ?_
  refine v_ifB_eq X dX8_formAtHand_6 (tgt := 11) (by decide) (fun h6 => ?_) (fun h6 => ?_)
  · refine v_aload_n X dX8_formAtHand_11 rfl 0 rfl ?_
    refine v_ldcS X dX8_formAtHand_12 (i := 12) (tx := "mustnt") (by decide) ?_
    refine v_roI1 X (rn_V X k_X8_isWord ml_X8_114 dX8_formAtHand_14 (c_X8_isWord l E k th tr wh g rr q (upN (upN (upN z 7 sz) 8 sp) 10 pl) nb wa wd ev al wl so 12 (by decide) (by omega)) rfl 0 rfl rfl (by decide) (by decide) (by omega) (by omega) (Nat.le_of_ble_eq_true rfl)) [0] rfl rfl ?_
    refine v_ifB_eq X dX8_formAtHand_17 (tgt := 22) (by decide) (fun h17 => ?_) (fun h17 => ?_)
    · refine v_aload_n X dX8_formAtHand_22 rfl 0 rfl ?_
      refine v_ldcS X dX8_formAtHand_23 (i := 13) (tx := "if") (by decide) ?_
      refine v_roI1 X (rn_V X k_X8_isWord ml_X8_114 dX8_formAtHand_25 (c_X8_isWord l E k th tr wh g rr q (upN (upN (upN z 7 sz) 8 sp) 10 pl) nb wa wd ev al wl so 13 (by decide) (by omega)) rfl 0 rfl rfl (by decide) (by decide) (by omega) (by omega) (Nat.le_of_ble_eq_true rfl)) [0] rfl rfl ?_
      refine v_ifB_eq X dX8_formAtHand_28 (tgt := 33) (by decide) (fun h28 => ?_) (fun h28 => ?_)
      · refine v_aload_n X dX8_formAtHand_33 rfl 0 rfl ?_
        refine v_ldcS X dX8_formAtHand_34 (i := 14) (tx := "unless") (by decide) ?_
        refine v_roI1 X (rn_V X k_X8_isWord ml_X8_114 dX8_formAtHand_36 (c_X8_isWord l E k th tr wh g rr q (upN (upN (upN z 7 sz) 8 sp) 10 pl) nb wa wd ev al wl so 14 (by decide) (by omega)) rfl 0 rfl rfl (by decide) (by decide) (by omega) (by omega) (Nat.le_of_ble_eq_true rfl)) [0] rfl rfl ?_
        refine v_ifB_eq X dX8_formAtHand_39 (tgt := 44) (by decide) (fun h39 => ?_) (fun h39 => ?_)
        · refine v_aload_n X dX8_formAtHand_44 rfl 0 rfl ?_
          refine v_ldcS X dX8_formAtHand_45 (i := 15) (tx := "notboth") (by decide) ?_
          refine v_roI1 X (rn_V X k_X8_isWord ml_X8_114 dX8_formAtHand_47 (c_X8_isWord l E k th tr wh g rr q (upN (upN (upN z 7 sz) 8 sp) 10 pl) nb wa wd ev al wl so 15 (by decide) (by omega)) rfl 0 rfl rfl (by decide) (by decide) (by omega) (by omega) (Nat.le_of_ble_eq_true rfl)) [0] rfl rfl ?_
          refine v_ifB_eq X dX8_formAtHand_50 (tgt := 57) (by decide) (fun h50 => ?_) (fun h50 => ?_)
          · refine v_aload_n X dX8_formAtHand_57 rfl 0 rfl ?_
            refine v_ldcS X dX8_formAtHand_58 (i := 16) (tx := "either") (by decide) ?_
            refine v_roI1 X (rn_V X k_X8_isWord ml_X8_114 dX8_formAtHand_60 (c_X8_isWord l E k th tr wh g rr q (upN (upN (upN z 7 sz) 8 sp) 10 pl) nb wa wd ev al wl so 16 (by decide) (by omega)) rfl 0 rfl rfl (by decide) (by decide) (by omega) (by omega) (Nat.le_of_ble_eq_true rfl)) [0] rfl rfl ?_
            refine v_ifB_eq X dX8_formAtHand_63 (tgt := 70) (by decide) (fun h63 => ?_) (fun h63 => ?_)
            · refine v_iconst X dX8_formAtHand_70 (v := (-1)) (by decide) ?_
              exact v_iret X Y dX8_formAtHand_71 (roI_of (by rw [fst_none (p := foP tk.1 tk.2.2.2) (n := 6) (fun m' hm' => fo_c6 m' hm' ((fo8 hT8 (show 11 < 20 by decide)).symm.trans h6) ((fo8 hT8 (show 12 < 20 by decide)).symm.trans h17) ((fo8 hT8 (show 13 < 20 by decide)).symm.trans h28) ((fo8 hT8 (show 14 < 20 by decide)).symm.trans h39) ((fo8 hT8 (show 15 < 20 by decide)).symm.trans h50) ((fo8 hT8 (show 16 < 20 by decide)).symm.trans h63))]; rfl)) (by omega) (by omega)
            · refine v_iconst X dX8_formAtHand_66 (v := nI 5) (by decide) ?_
              refine v_goto X dX8_formAtHand_67 (tgt := 71) (by decide) ?_
              exact v_iret X Y dX8_formAtHand_71 (roI_of (by rw [fst_mv (p := foP tk.1 tk.2.2.2) (n := 6) (m := 5) (by decide) (fun m' hm' => fo_c5 m' hm' ((fo8 hT8 (show 11 < 20 by decide)).symm.trans h6) ((fo8 hT8 (show 12 < 20 by decide)).symm.trans h17) ((fo8 hT8 (show 13 < 20 by decide)).symm.trans h28) ((fo8 hT8 (show 14 < 20 by decide)).symm.trans h39) ((fo8 hT8 (show 15 < 20 by decide)).symm.trans h50)), fst_hit (p := foP tk.1 tk.2.2.2) (m := 6) (c := 5) (by decide) ((fo8 hT8 (show 16 < 20 by decide)).symm.trans h63)]; rfl)) (by omega) (by omega)
          · refine v_iconst X dX8_formAtHand_53 (v := nI 4) (by decide) ?_
            refine v_goto X dX8_formAtHand_54 (tgt := 71) (by decide) ?_
            exact v_iret X Y dX8_formAtHand_71 (roI_of (by rw [fst_mv (p := foP tk.1 tk.2.2.2) (n := 6) (m := 4) (by decide) (fun m' hm' => fo_c4 m' hm' ((fo8 hT8 (show 11 < 20 by decide)).symm.trans h6) ((fo8 hT8 (show 12 < 20 by decide)).symm.trans h17) ((fo8 hT8 (show 13 < 20 by decide)).symm.trans h28) ((fo8 hT8 (show 14 < 20 by decide)).symm.trans h39)), fst_hit (p := foP tk.1 tk.2.2.2) (m := 6) (c := 4) (by decide) ((fo8 hT8 (show 15 < 20 by decide)).symm.trans h50)]; rfl)) (by omega) (by omega)
        · refine v_iconst X dX8_formAtHand_42 (v := nI 3) (by decide) ?_
          exact v_iret X Y dX8_formAtHand_43 (roI_of (by rw [fst_mv (p := foP tk.1 tk.2.2.2) (n := 6) (m := 3) (by decide) (fun m' hm' => fo_c3 m' hm' ((fo8 hT8 (show 11 < 20 by decide)).symm.trans h6) ((fo8 hT8 (show 12 < 20 by decide)).symm.trans h17) ((fo8 hT8 (show 13 < 20 by decide)).symm.trans h28)), fst_hit (p := foP tk.1 tk.2.2.2) (m := 6) (c := 3) (by decide) ((fo8 hT8 (show 14 < 20 by decide)).symm.trans h39)]; rfl)) (by omega) (by omega)
      · refine v_iconst X dX8_formAtHand_31 (v := nI 2) (by decide) ?_
        exact v_iret X Y dX8_formAtHand_32 (roI_of (by rw [fst_mv (p := foP tk.1 tk.2.2.2) (n := 6) (m := 2) (by decide) (fun m' hm' => fo_c2 m' hm' ((fo8 hT8 (show 11 < 20 by decide)).symm.trans h6) ((fo8 hT8 (show 12 < 20 by decide)).symm.trans h17)), fst_hit (p := foP tk.1 tk.2.2.2) (m := 6) (c := 2) (by decide) ((fo8 hT8 (show 13 < 20 by decide)).symm.trans h28)]; rfl)) (by omega) (by omega)
    · refine v_iconst X dX8_formAtHand_20 (v := nI 1) (by decide) ?_
      exact v_iret X Y dX8_formAtHand_21 (roI_of (by rw [fst_mv (p := foP tk.1 tk.2.2.2) (n := 6) (m := 1) (by decide) (fun m' hm' => fo_c1 m' hm' ((fo8 hT8 (show 11 < 20 by decide)).symm.trans h6)), fst_hit (p := foP tk.1 tk.2.2.2) (m := 6) (c := 1) (by decide) ((fo8 hT8 (show 12 < 20 by decide)).symm.trans h17)]; rfl)) (by omega) (by omega)
  · refine v_iconst X dX8_formAtHand_9 (v := nI 0) (by decide) ?_
    exact v_iret X Y dX8_formAtHand_10 (roI_of (by rw [fst_mv (p := foP tk.1 tk.2.2.2) (n := 6) (m := 0) (by decide) (fun m' hm' => fo_c0 m' hm' ), fst_hit (p := foP tk.1 tk.2.2.2) (m := 6) (c := 0) (by decide) ((fo8 hT8 (show 11 < 20 by decide)).symm.trans h6)]; rfl)) (by omega) (by omega)
