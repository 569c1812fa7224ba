set_option maxRecDepth 100000 in
set_option maxHeartbeats 4000000 in
theorem c_X8_byteAt (l : Launch) (E : Et) (k : Nat) (th : Nat) (tr : Nat) (wh : Int32) (g : Option Nat) (rr : Option Nat) (q : Nat → Nat) (z : Nat → Nat) (nb : Int32) (wa : Int32) (wd : Int64) (ev : Nat) (al : Int32) (wl : Int64) (sz : Nat) (tp : Nat → Int32) (i : Nat) (hsz : sz ≤ 900) (hi : i ≤ 900) (hby : byT tp) : Ct l E yX8_byteAt cX8_byteAt 2 (some .int) 0 0 0 [.ref k, .int (nI i)] [ob k 8 [.int (nI th), .int (nI tr), .int wh, va_rf g, va_rf rr, .ref (q 5), .int (nI (z 6)), .int (nI sz), .int (nI (z 8)), .int (nI (z 9)), .int (nI (z 10)), .int nb, .int (nI (z 12)), .int wa, .long wd, .ref (q 15), .ref (q 16), .ref (q 17), .ref (q 18), .int (nI (z 19)), .int (nI (z 20)), .ref (q 21), .long (lN ev), .ref (q 23), .ref (q 24), .int (nI (z 25)), .ref (q 26), .int al, .long wl, .int (nI (z 29))], aB E (q 5) 900 tp] (roI [ob k 8 [.int (nI th), .int (nI tr), .int wh, va_rf g, va_rf rr, .ref (q 5), .int (nI (z 6)), .int (nI sz), .int (nI (z 8)), .int (nI (z 9)), .int (nI (z 10)), .int nb, .int (nI (z 12)), .int wa, .long wd, .ref (q 15), .ref (q 16), .ref (q 17), .ref (q 18), .int (nI (z 19)), .int (nI (z 20)), .ref (q 21), .long (lN ev), .ref (q 23), .ref (q 24), .int (nI (z 25)), .ref (q 26), .int al, .long wl, .int (nI (z 29))], aB E (q 5) 900 tp] (if i < sz then nI (bN tp i) else (-1))) := by
  refine Ct.intro (by decide +kernel) (Nat.le_of_ble_eq_true rfl) (lv := [(0, .ref k), (1, .int (nI i))]) rfl ?_
  intro Z X Y
  refine v_iload_n X dX8_byteAt_0 rfl 1 rfl ?_
  refine v_aload_n X dX8_byteAt_1 rfl 0 rfl ?_
  refine v_get X kcX8 fl_X8_60 dX8_byteAt_2 0 rfl rfl ?_
  refine v_icmpN_ge X dX8_byteAt_5 (tgt := 21) (by decide) (by omega) (by omega) (fun h5 => ?_) (fun h5 => ?_)
  · refine v_iconst X dX8_byteAt_21 (v := (-1)) (by decide) ?_
    exact v_iret X Y dX8_byteAt_22 (roI_of ((if_neg (Nat.not_lt.mpr h5)).symm)) (by omega) (by omega)
  · refine v_aload_n X dX8_byteAt_8 rfl 0 rfl ?_
    refine v_get X kcX8 fl_X8_13 dX8_byteAt_9 0 rfl rfl ?_
    refine v_iload_n X dX8_byteAt_12 rfl 1 rfl ?_
    refine v_bald X dX8_byteAt_13 1 rfl (by omega) (by decide) ?_
    refine v_sipush X dX8_byteAt_14 (v := nI 255) (by decide) ?_
    refine v_iand X dX8_byteAt_17 ?_
    refine v_goto X dX8_byteAt_18 (tgt := 22) (by decide) ?_
    exact v_iret X Y dX8_byteAt_22 (roI_of ((bN_u hby i).trans (if_pos (Nat.not_le.mp h5)).symm)) (by omega) (by omega)
set_option maxRecDepth 100000 in
set_option maxHeartbeats 4000000 in
theorem c_X8_isLetter (l : Launch) (E : Et) (b : Int32)  : Ct l E yX8_isLetter cX8_isLetter 1 (some .boolean) 0 0 0 [.int b] [] (roI [] (nI (decide (nI 97 ≤ b ∧ b ≤ nI 122)).toNat)) := by
  refine Ct.intro (by decide +kernel) (Nat.le_of_ble_eq_true rfl) (lv := [(0, .int b)]) rfl ?_
  intro Z X Y
  refine v_iload_n X dX8_isLetter_0 rfl 0 rfl ?_
  refine v_bipush X dX8_isLetter_1 (v := nI 97) (by decide) ?_
  refine v_icmp_lt X dX8_isLetter_3 (tgt := 16) (by decide) (fun h3 => ?_) (fun h3 => ?_)
  · refine v_iconst X dX8_isLetter_16 (v := nI 0) (by decide) ?_
    exact v_zret X Y dX8_isLetter_17 (by decide) (roI_of (bo0 (decide_eq_false (fun q => absurd q.1 (Int32.not_le.mpr h3))))) (by omega) (by omega)
  · refine v_iload_n X dX8_isLetter_6 rfl 0 rfl ?_
    refine v_bipush X dX8_isLetter_7 (v := nI 122) (by decide) ?_
    refine v_icmp_gt X dX8_isLetter_9 (tgt := 16) (by decide) (fun h9 => ?_) (fun h9 => ?_)
    · refine v_iconst X dX8_isLetter_16 (v := nI 0) (by decide) ?_
      exact v_zret X Y dX8_isLetter_17 (by decide) (roI_of (bo0 (decide_eq_false (fun q => absurd q.2 (Int32.not_le.mpr h9))))) (by omega) (by omega)
    · refine v_iconst X dX8_isLetter_12 (v := nI 1) (by decide) ?_
      refine v_goto X dX8_isLetter_13 (tgt := 17) (by decide) ?_
      exact v_zret X Y dX8_isLetter_17 (by decide) (roI_of (bo1 (decide_eq_true ⟨Int32.not_lt.mp h3, Int32.not_lt.mp h9⟩))) (by omega) (by omega)
set_option maxRecDepth 100000 in
set_option maxHeartbeats 4000000 in
theorem c_X8_isDigit (l : Launch) (E : Et) (b : Int32)  : Ct l E yX8_isDigit cX8_isDigit 1 (some .boolean) 0 0 0 [.int b] [] (roI [] (nI (decide (nI 48 ≤ b ∧ b ≤ nI 57)).toNat)) := by
  refine Ct.intro (by decide +kernel) (Nat.le_of_ble_eq_true rfl) (lv := [(0, .int b)]) rfl ?_
  intro Z X Y
  refine v_iload_n X dX8_isDigit_0 rfl 0 rfl ?_
  refine v_bipush X dX8_isDigit_1 (v := nI 48) (by decide) ?_
  refine v_icmp_lt X dX8_isDigit_3 (tgt := 16) (by decide) (fun h3 => ?_) (fun h3 => ?_)
  · refine v_iconst X dX8_isDigit_16 (v := nI 0) (by decide) ?_
    exact v_zret X Y dX8_isDigit_17 (by decide) (roI_of (bo0 (decide_eq_false (fun q => absurd q.1 (Int32.not_le.mpr h3))))) (by omega) (by omega)
  · refine v_iload_n X dX8_isDigit_6 rfl 0 rfl ?_
    refine v_bipush X dX8_isDigit_7 (v := nI 57) (by decide) ?_
    refine v_icmp_gt X dX8_isDigit_9 (tgt := 16) (by decide) (fun h9 => ?_) (fun h9 => ?_)
    · refine v_iconst X dX8_isDigit_16 (v := nI 0) (by decide) ?_
      exact v_zret X Y dX8_isDigit_17 (by decide) (roI_of (bo0 (decide_eq_false (fun q => absurd q.2 (Int32.not_le.mpr h9))))) (by omega) (by omega)
    · refine v_iconst X dX8_isDigit_12 (v := nI 1) (by decide) ?_
      refine v_goto X dX8_isDigit_13 (tgt := 17) (by decide) ?_
      exact v_zret X Y dX8_isDigit_17 (by decide) (roI_of (bo1 (decide_eq_true ⟨Int32.not_lt.mp h3, Int32.not_lt.mp h9⟩))) (by omega) (by omega)
set_option maxRecDepth 100000 in
set_option maxHeartbeats 4000000 in
theorem c_X8_flaw (l : Launch) (E : Et) (k : Nat) (th : Nat) (tr : Nat) (wh : Int32) (g : Option Nat) (rr : Option Nat) (q : Nat → Nat) (z : Nat → Nat) (nb : Int32) (wa : Int32) (wd : Int64) (ev : Nat) (al : Int32) (wl : Int64) (so : Nat) (pl : Nat) (kk : Nat) (hso : so ≤ 4) : Ct l E yX8_flaw cX8_flaw 2 none 0 0 0 [.ref k, .int (nI kk)] [ob k 8 [.int (nI th), .int (nI tr), .int wh, va_rf g, va_rf rr, .ref (q 5), .int (nI (z 6)), .int (nI (z 7)), .int (nI (z 8)), .int (nI so), .int (nI pl), .int nb, .int (nI (z 12)), .int wa, .long wd, .ref (q 15), .ref (q 16), .ref (q 17), .ref (q 18), .int (nI (z 19)), .int (nI (z 20)), .ref (q 21), .long (lN ev), .ref (q 23), .ref (q 24), .int (nI (z 25)), .ref (q 26), .int al, .long wl, .int (nI (z 29))]] (wrV [ob k 8 [.int (nI th), .int (nI tr), .int wh, va_rf g, va_rf rr, .ref (q 5), .int (nI (z 6)), .int (nI (z 7)), .int (nI (z 8)), .int (nI 5), .int (nI pl), .int nb, .int (nI kk), .int (nI pl), .long wd, .ref (q 15), .ref (q 16), .ref (q 17), .ref (q 18), .int (nI (z 19)), .int (nI (z 20)), .ref (q 21), .long (lN ev), .ref (q 23), .ref (q 24), .int (nI (z 25)), .ref (q 26), .int al, .long wl, .int (nI (z 29))]]) := by
  refine Ct.intro (by decide +kernel) (Nat.le_of_ble_eq_true rfl) (lv := [(0, .ref k), (1, .int (nI kk))]) rfl ?_
  intro Z X Y
  refine v_aload_n X dX8_flaw_0 rfl 0 rfl ?_
  refine v_get X kcX8 fl_X8_75 dX8_flaw_1 0 rfl rfl ?_
  refine v_iconst X dX8_flaw_4 (v := nI 5) (by decide) ?_
  refine v_icmpN_ne X dX8_flaw_5 (tgt := 9) (by decide) (by omega) (by decide) (fun h5 => ?_) (fun h5 => ?_)
  · refine v_aload_n X dX8_flaw_9 rfl 0 rfl ?_
    refine v_iload_n X dX8_flaw_10 rfl 1 rfl ?_
    refine v_put X kcX8 fl_X8_101 dX8_flaw_11 0 rfl (ws' := [ob k 8 [.int (nI th), .int (nI tr), .int wh, va_rf g, va_rf rr, .ref (q 5), .int (nI (z 6)), .int (nI (z 7)), .int (nI (z 8)), .int (nI so), .int (nI pl), .int nb, .int (nI kk), .int wa, .long wd, .ref (q 15), .ref (q 16), .ref (q 17), .ref (q 18), .int (nI (z 19)), .int (nI (z 20)), .ref (q 21), .long (lN ev), .ref (q 23), .ref (q 24), .int (nI (z 25)), .ref (q 26), .int al, .long wl, .int (nI (z 29))]]) rfl rfl ?_
    refine v_aload_n X dX8_flaw_14 rfl 0 rfl ?_
    refine v_aload_n X dX8_flaw_15 rfl 0 rfl ?_
    refine v_get X kcX8 fl_X8_84 dX8_flaw_16 0 rfl rfl ?_
    refine v_put X kcX8 fl_X8_104 dX8_flaw_19 0 rfl (ws' := [ob k 8 [.int (nI th), .int (nI tr), .int wh, va_rf g, va_rf rr, .ref (q 5), .int (nI (z 6)), .int (nI (z 7)), .int (nI (z 8)), .int (nI so), .int (nI pl), .int nb, .int (nI kk), .int (nI pl), .long wd, .ref (q 15), .ref (q 16), .ref (q 17), .ref (q 18), .int (nI (z 19)), .int (nI (z 20)), .ref (q 21), .long (lN ev), .ref (q 23), .ref (q 24), .int (nI (z 25)), .ref (q 26), .int al, .long wl, .int (nI (z 29))]]) rfl rfl ?_
    refine v_aload_n X dX8_flaw_22 rfl 0 rfl ?_
    refine v_iconst X dX8_flaw_23 (v := nI 5) (by decide) ?_
    refine v_put X kcX8 fl_X8_75 dX8_flaw_24 0 rfl (ws' := [ob k 8 [.int (nI th), .int (nI tr), .int wh, va_rf g, va_rf rr, .ref (q 5), .int (nI (z 6)), .int (nI (z 7)), .int (nI (z 8)), .int (nI 5), .int (nI pl), .int nb, .int (nI kk), .int (nI pl), .long wd, .ref (q 15), .ref (q 16), .ref (q 17), .ref (q 18), .int (nI (z 19)), .int (nI (z 20)), .ref (q 21), .long (lN ev), .ref (q 23), .ref (q 24), .int (nI (z 25)), .ref (q 26), .int al, .long wl, .int (nI (z 29))]]) rfl rfl ?_
    exact v_vret X Y dX8_flaw_27 (wrV_of rfl) (by omega) (by omega)
  · exfalso; omega
set_option maxRecDepth 100000 in
set_option maxHeartbeats 4000000 in
theorem c_X8_flaw_o (l : Launch) (E : Et) (k : Nat) (th : Nat) (tr : Nat) (wh : Int32) (g : Option Nat) (rr : Option Nat) (q : Nat → Nat) (z : Nat → Nat) (nb : Int32) (wa : Int32) (wd : Int64) (ev : Nat) (al : Int32) (wl : Int64) (kk : Nat)  : Ct l E yX8_flaw cX8_flaw 2 none 0 0 0 [.ref k, .int (nI kk)] [ob k 8 [.int (nI th), .int (nI tr), .int wh, va_rf g, va_rf rr, .ref (q 5), .int (nI (z 6)), .int (nI (z 7)), .int (nI (z 8)), .int (nI 5), .int (nI (z 10)), .int nb, .int (nI (z 12)), .int wa, .long wd, .ref (q 15), .ref (q 16), .ref (q 17), .ref (q 18), .int (nI (z 19)), .int (nI (z 20)), .ref (q 21), .long (lN ev), .ref (q 23), .ref (q 24), .int (nI (z 25)), .ref (q 26), .int al, .long wl, .int (nI (z 29))]] (roV [ob k 8 [.int (nI th), .int (nI tr), .int wh, va_rf g, va_rf rr, .ref (q 5), .int (nI (z 6)), .int (nI (z 7)), .int (nI (z 8)), .int (nI 5), .int (nI (z 10)), .int nb, .int (nI (z 12)), .int wa, .long wd, .ref (q 15), .ref (q 16), .ref (q 17), .ref (q 18), .int (nI (z 19)), .int (nI (z 20)), .ref (q 21), .long (lN ev), .ref (q 23), .ref (q 24), .int (nI (z 25)), .ref (q 26), .int al, .long wl, .int (nI (z 29))]]) := by
  refine Ct.intro (by decide +kernel) (Nat.le_of_ble_eq_true rfl) (lv := [(0, .ref k), (1, .int (nI kk))]) rfl ?_
  intro Z X Y
  refine v_aload_n X dX8_flaw_0 rfl 0 rfl ?_
  refine v_get X kcX8 fl_X8_75 dX8_flaw_1 0 rfl rfl ?_
  refine v_iconst X dX8_flaw_4 (v := nI 5) (by decide) ?_
  refine v_icmpN_ne X dX8_flaw_5 (tgt := 9) (by decide) (by decide) (by decide) (fun h5 => ?_) (fun h5 => ?_)
  · exfalso; omega
  · exact v_vret X Y dX8_flaw_8 roV_of (by omega) (by omega)
set_option maxRecDepth 100000 in
set_option maxHeartbeats 4000000 in
theorem c_X8_goesOn_o (l : Launch) (E : Et) (k : Nat) (th : Nat) (tr : Nat) (wh : Int32) (g : Option Nat) (rr : Option Nat) (q : Nat → Nat) (z : Nat → Nat) (nb : Int32) (wa : Int32) (wd : Int64) (ev : Nat) (al : Int32) (wl : Int64)  : Ct l E yX8_goesOn cX8_goesOn 3 none 1 0 0 [.ref k] [ob k 8 [.int (nI th), .int (nI tr), .int wh, va_rf g, va_rf rr, .ref (q 5), .int (nI (z 6)), .int (nI (z 7)), .int (nI (z 8)), .int (nI 5), .int (nI (z 10)), .int nb, .int (nI (z 12)), .int wa, .long wd, .ref (q 15), .ref (q 16), .ref (q 17), .ref (q 18), .int (nI (z 19)), .int (nI (z 20)), .ref (q 21), .long (lN ev), .ref (q 23), .ref (q 24), .int (nI (z 25)), .ref (q 26), .int al, .long wl, .int (nI (z 29))]] (roV [ob k 8 [.int (nI th), .int (nI tr), .int wh, va_rf g, va_rf rr, .ref (q 5), .int (nI (z 6)), .int (nI (z 7)), .int (nI (z 8)), .int (nI 5), .int (nI (z 10)), .int nb, .int (nI (z 12)), .int wa, .long wd, .ref (q 15), .ref (q 16), .ref (q 17), .ref (q 18), .int (nI (z 19)), .int (nI (z 20)), .ref (q 21), .long (lN ev), .ref (q 23), .ref (q 24), .int (nI (z 25)), .ref (q 26), .int al, .long wl, .int (nI (z 29))]]) := by
  refine Ct.intro (by decide +kernel) (Nat.le_of_ble_eq_true rfl) (lv := [(0, .ref k)]) rfl ?_
  intro Z X Y
  refine v_aload_n X dX8_goesOn_0 rfl 0 rfl ?_
  refine v_get X kcX8 fl_X8_75 dX8_goesOn_1 0 rfl rfl ?_
  refine v_iconst X dX8_goesOn_4 (v := nI 5) (by decide) ?_
  refine v_icmpN_ne X dX8_goesOn_5 (tgt := 9) (by decide) (by decide) (by decide) (fun h5 => ?_) (fun h5 => ?_)
  · exfalso; omega
  · exact v_vret X Y dX8_goesOn_8 roV_of (by omega) (by omega)
set_option maxRecDepth 100000 in
set_option maxHeartbeats 4000000 in
theorem c_X8_isWord (l : Launch) (E : Et) (k : Nat) (th : Nat) (tr : Nat) (wh : Int32) (g : Option Nat) (rr : Option Nat) (q : Nat → Nat) (z : Nat → Nat) (nb : Int32) (wa : Int32) (wd : Int64) (ev : Nat) (al : Int32) (wl : Int64) (so : Nat) (i : Nat) (hi : i < 20) (hso : so ≤ 5) : Ct l E yX8_isWord cX8_isWord 2 (some .boolean) 5 0 0 [.ref k, .ref (eK E i)] [ob k 8 [.int (nI th), .int (nI tr), .int wh, va_rf g, va_rf rr, .ref (q 5), .int (nI (z 6)), .int (nI (z 7)), .int (nI (z 8)), .int (nI so), .int (nI (z 10)), .int nb, .int (nI (z 12)), .int wa, .long wd, .ref (q 15), .ref (q 16), .ref (q 17), .ref (q 18), .int (nI (z 19)), .int (nI (z 20)), .ref (q 21), .long (lN ev), .ref (q 23), .ref (q 24), .int (nI (z 25)), .ref (q 26), .int al, .long wl, .int (nI (z 29))]] (roI [ob k 8 [.int (nI th), .int (nI tr), .int wh, va_rf g, va_rf rr, .ref (q 5), .int (nI (z 6)), .int (nI (z 7)), .int (nI (z 8)), .int (nI so), .int (nI (z 10)), .int nb, .int (nI (z 12)), .int wa, .long wd, .ref (q 15), .ref (q 16), .ref (q 17), .ref (q 18), .int (nI (z 19)), .int (nI (z 20)), .ref (q 21), .long (lN ev), .ref (q 23), .ref (q 24), .int (nI (z 25)), .ref (q 26), .int al, .long wl, .int (nI (z 29))]] (nI (decide (so = 2 ∧ wd = lN (pkS 32 i))).toNat)) := by
  refine Ct.intro (by decide +kernel) (Nat.le_of_ble_eq_true rfl) (lv := [(0, .ref k), (1, .ref (eK E i))]) rfl ?_
  intro Z X Y
  refine v_aload_n X dX8_isWord_0 rfl 0 rfl ?_
  refine v_get X kcX8 fl_X8_75 dX8_isWord_1 0 rfl rfl ?_
  refine v_iconst X dX8_isWord_4 (v := nI 2) (by decide) ?_
  refine v_icmpN_ne X dX8_isWord_5 (tgt := 24) (by decide) (by omega) (by decide) (fun h5 => ?_) (fun h5 => ?_)
  · refine v_iconst X dX8_isWord_24 (v := nI 0) (by decide) ?_
    exact v_zret X Y dX8_isWord_25 (by decide) (roI_of (bo0 (decide_eq_false (fun q => h5 q.1)))) (by omega) (by omega)
  · refine v_aload_n X dX8_isWord_8 rfl 0 rfl ?_
    refine v_get X kcX8 fl_X8_91 dX8_isWord_9 0 rfl rfl ?_
    refine v_aload_n X dX8_isWord_12 rfl 1 rfl ?_
    refine v_roL1 X (rn_S X k_X8_packed ml_X8_107 dX8_isWord_13 (c_X8_packed l E i (by first | assumption | omega)) rfl (by decide) (by decide) (by omega) (by omega) (Nat.le_of_ble_eq_true rfl)) [] rfl rfl ?_
    refine v_lcmp X dX8_isWord_16 ?_
    refine v_ifL_ne X dX8_isWord_17 (tgt := 24) (by decide) (fun h17 => ?_) (fun h17 => ?_)
    · refine v_iconst X dX8_isWord_24 (v := nI 0) (by decide) ?_
      exact v_zret X Y dX8_isWord_25 (by decide) (roI_of (bo0 (decide_eq_false (fun q => h17 q.2)))) (by omega) (by omega)
    · refine v_iconst X dX8_isWord_20 (v := nI 1) (by decide) ?_
      refine v_goto X dX8_isWord_21 (tgt := 25) (by decide) ?_
      exact v_zret X Y dX8_isWord_25 (by decide) (roI_of (bo1 (decide_eq_true ⟨h5, h17⟩))) (by omega) (by omega)
