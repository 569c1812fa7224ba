set_option maxRecDepth 100000 in
set_option maxHeartbeats 4000000 in
theorem c_X7_find (l : Launch) (E : Et) (gr7 : Nat) (cy : Nat → Nat) (bl : Int32) (kp : Nat) (nc : Nat) (cb : Nat → Nat) (na : Nat → Int64) (w : Int64) (hnc : nc ≤ 18) : Ct l E yX7_find cX7_find 4 (some .int) 0 0 0 [.ref gr7, .long w] [ob gr7 7 [.int bl, .int (nI (cy 1)), .int (nI (cy 2)), .int (nI (cy 3)), .int (nI (cy 4)), .int (nI (cy 5)), .int (nI (cy 6)), .int (nI (cy 7)), .int (nI kp), .int (nI nc), .ref (cb 0), .ref (cb 1), .ref (cb 2), .ref (cb 3), .ref (cb 4), .ref (cb 5), .ref (cb 6), .ref (cb 7), .ref (cb 8), .ref (cb 9), .ref (cb 10), .ref (cb 11)], aL E (cb 9) 18 na] (roI [ob gr7 7 [.int bl, .int (nI (cy 1)), .int (nI (cy 2)), .int (nI (cy 3)), .int (nI (cy 4)), .int (nI (cy 5)), .int (nI (cy 6)), .int (nI (cy 7)), .int (nI kp), .int (nI nc), .ref (cb 0), .ref (cb 1), .ref (cb 2), .ref (cb 3), .ref (cb 4), .ref (cb 5), .ref (cb 6), .ref (cb 7), .ref (cb 8), .ref (cb 9), .ref (cb 10), .ref (cb 11)], aL E (cb 9) 18 na] (optJ (fst_ (fun i => decide (na i = w)) nc 0))) := by
  refine Ct.intro (by decide +kernel) (Nat.le_of_ble_eq_true rfl) (lv := [(0, .ref gr7), (1, .long w)]) rfl ?_
  intro Z X Y
  refine v_iconst X dX7_find_0 (v := nI 0) (by decide) ?_
  refine v_istore_n X dX7_find_1 rfl (by decide) (lv' := [(3, .int (nI 0)), (0, .ref gr7), (1, .long w)]) rfl ?_
  have L2 : ∀ (j2 : Nat) (vi : Nat), (vi ≤ nc ∧ fst_ (fun i => decide (na i = w)) nc 0 = fst_ (fun i => decide (na i = w)) (nc - vi) vi) → nc - vi < j2 → V E Z 2 [(0, .ref gr7), (1, .long w), (3, .int (nI vi))] [] [ob gr7 7 [.int bl, .int (nI (cy 1)), .int (nI (cy 2)), .int (nI (cy 3)), .int (nI (cy 4)), .int (nI (cy 5)), .int (nI (cy 6)), .int (nI (cy 7)), .int (nI kp), .int (nI nc), .ref (cb 0), .ref (cb 1), .ref (cb 2), .ref (cb 3), .ref (cb 4), .ref (cb 5), .ref (cb 6), .ref (cb 7), .ref (cb 8), .ref (cb 9), .ref (cb 10), .ref (cb 11)], aL E (cb 9) 18 na] 0 0 := by
    intro j2
    induction j2 with
    | zero => intro vi hI hM; exact absurd hM (Nat.not_lt_zero _)
    | succ j2 ih2 =>
      intro vi hI2 hM2
      obtain ⟨hc, hq⟩ := id hI2
      refine v_iload_n X dX7_find_2 rfl 2 rfl ?_
      refine v_aload_n X dX7_find_3 rfl 0 rfl ?_
      refine v_get X kcX7 fl_X7_53 dX7_find_4 0 rfl rfl ?_
      refine v_icmpN_ge X dX7_find_7 (tgt := 29) (by decide) (by omega) (by omega) (fun h7 => ?_) (fun h7 => ?_)
      · refine v_iconst X dX7_find_29 (v := (-1)) (by decide) ?_
        exact v_iret X Y dX7_find_30 (roI_of (by rw [hq, show nc - vi = 0 by omega]; rfl)) (by omega) (by omega)
      · refine v_aload_n X dX7_find_10 rfl 0 rfl ?_
        refine v_get X kcX7 fl_X7_43 dX7_find_11 0 rfl rfl ?_
        refine v_iload_n X dX7_find_14 rfl 2 rfl ?_
        refine v_lald X dX7_find_15 1 rfl (by omega) (by decide) ?_
        refine v_lload_n X dX7_find_16 rfl 1 rfl ?_
        refine v_lcmp X dX7_find_17 ?_
        refine v_ifL_ne X dX7_find_18 (tgt := 23) (by decide) (fun h18 => ?_) (fun h18 => ?_)
        · refine v_iinc X dX7_find_23 2 rfl (v := nI (vi + 1)) (nI_inc vi) (by decide) (lv' := [(3, .int (nI (vi + 1))), (0, .ref gr7), (1, .long w)]) rfl ?_
          refine v_goto X dX7_find_26 (tgt := 2) (by decide) ?_
          refine V.lvs [1, 2, 0] rfl ?_
          exact ih2 (vi + 1) (⟨by omega, hq.trans (fst_no (by omega) (decide_eq_false h18))⟩) (by omega)
        · refine v_iload_n X dX7_find_21 rfl 2 rfl ?_
          exact v_iret X Y dX7_find_22 (roI_of (by rw [hq, fst_hit (p := fun i => decide (na i = w)) (by omega) (decide_eq_true h18)]; rfl)) (by omega) (by omega)
  refine V.lvs [1, 2, 0] rfl ?_
  exact L2 _ 0 (⟨by omega, rfl⟩) (Nat.lt_succ_self _)
set_option maxRecDepth 100000 in
set_option maxHeartbeats 4000000 in
theorem c_X7_isUnsure (l : Launch) (E : Et) (gr7 : Nat) (cy : Nat → Nat) (bl : Int32) (kp : Nat) (nc : Nat) (cb : Nat → Nat) (un : Nat → Nat) (c : Nat) (hu : cy 6 ≤ 5) (hun : ∀ j, j < cy 6 → un j < 8) (hc8 : c < 8) : Ct l E yX7_isUnsure cX7_isUnsure 3 (some .boolean) 0 0 0 [.ref gr7, .int (nI c)] [ob gr7 7 [.int bl, .int (nI (cy 1)), .int (nI (cy 2)), .int (nI (cy 3)), .int (nI (cy 4)), .int (nI (cy 5)), .int (nI (cy 6)), .int (nI (cy 7)), .int (nI kp), .int (nI nc), .ref (cb 0), .ref (cb 1), .ref (cb 2), .ref (cb 3), .ref (cb 4), .ref (cb 5), .ref (cb 6), .ref (cb 7), .ref (cb 8), .ref (cb 9), .ref (cb 10), .ref (cb 11)], aN E (cb 5) 5 un] (roI [ob gr7 7 [.int bl, .int (nI (cy 1)), .int (nI (cy 2)), .int (nI (cy 3)), .int (nI (cy 4)), .int (nI (cy 5)), .int (nI (cy 6)), .int (nI (cy 7)), .int (nI kp), .int (nI nc), .ref (cb 0), .ref (cb 1), .ref (cb 2), .ref (cb 3), .ref (cb 4), .ref (cb 5), .ref (cb 6), .ref (cb 7), .ref (cb 8), .ref (cb 9), .ref (cb 10), .ref (cb 11)], aN E (cb 5) 5 un] (nI ((fst_ (fun i => decide (un i = c)) (cy 6) 0).isSome).toNat)) := by
  refine Ct.intro (by decide +kernel) (Nat.le_of_ble_eq_true rfl) (lv := [(0, .ref gr7), (1, .int (nI c))]) rfl ?_
  intro Z X Y
  refine v_iconst X dX7_isUnsure_0 (v := nI 0) (by decide) ?_
  refine v_istore_n X dX7_isUnsure_1 rfl (by decide) (lv' := [(2, .int (nI 0)), (0, .ref gr7), (1, .int (nI c))]) rfl ?_
  have L2 : ∀ (j2 : Nat) (vi : Nat), (vi ≤ cy 6 ∧ fst_ (fun i => decide (un i = c)) (cy 6) 0 = fst_ (fun i => decide (un i = c)) (cy 6 - vi) vi) → cy 6 - vi < j2 → V E Z 2 [(0, .ref gr7), (1, .int (nI c)), (2, .int (nI vi))] [] [ob gr7 7 [.int bl, .int (nI (cy 1)), .int (nI (cy 2)), .int (nI (cy 3)), .int (nI (cy 4)), .int (nI (cy 5)), .int (nI (cy 6)), .int (nI (cy 7)), .int (nI kp), .int (nI nc), .ref (cb 0), .ref (cb 1), .ref (cb 2), .ref (cb 3), .ref (cb 4), .ref (cb 5), .ref (cb 6), .ref (cb 7), .ref (cb 8), .ref (cb 9), .ref (cb 10), .ref (cb 11)], aN E (cb 5) 5 un] 0 0 := by
    intro j2
    induction j2 with
    | zero => intro vi hI hM; exact absurd hM (Nat.not_lt_zero _)
    | succ j2 ih2 =>
      intro vi hI2 hM2
      obtain ⟨hc, hq⟩ := id hI2
      refine v_iload_n X dX7_isUnsure_2 rfl 2 rfl ?_
      refine v_aload_n X dX7_isUnsure_3 rfl 0 rfl ?_
      refine v_get X kcX7 fl_X7_56 dX7_isUnsure_4 0 rfl rfl ?_
      refine v_icmpN_ge X dX7_isUnsure_7 (tgt := 28) (by decide) (by omega) (by omega) (fun h7 => ?_) (fun h7 => ?_)
      · refine v_iconst X dX7_isUnsure_28 (v := nI 0) (by decide) ?_
        exact v_zret X Y dX7_isUnsure_29 (by decide) (roI_of (by rw [hq, show cy 6 - vi = 0 by omega]; rfl)) (by omega) (by omega)
      · refine v_aload_n X dX7_isUnsure_10 rfl 0 rfl ?_
        refine v_get X kcX7 fl_X7_31 dX7_isUnsure_11 0 rfl rfl ?_
        refine v_iload_n X dX7_isUnsure_14 rfl 2 rfl ?_
        refine v_iald X dX7_isUnsure_15 1 rfl (by omega) (by decide) ?_
        refine v_iload_n X dX7_isUnsure_16 rfl 1 rfl ?_
        refine v_icmpN_ne X dX7_isUnsure_17 (tgt := 22) (by decide) (Nat.lt_trans (hun _ (by omega)) (by decide)) (by omega) (fun h17 => ?_) (fun h17 => ?_)
        · refine v_iinc X dX7_isUnsure_22 2 rfl (v := nI (vi + 1)) (nI_inc vi) (by decide) (lv' := [(2, .int (nI (vi + 1))), (0, .ref gr7), (1, .int (nI c))]) rfl ?_
          refine v_goto X dX7_isUnsure_25 (tgt := 2) (by decide) ?_
          refine V.lvs [1, 2, 0] rfl ?_
          exact ih2 (vi + 1) (⟨by omega, hq.trans (fst_no (by omega) (decide_eq_false h17))⟩) (by omega)
        · refine v_iconst X dX7_isUnsure_20 (v := nI 1) (by decide) ?_
          exact v_zret X Y dX7_isUnsure_21 (by decide) (roI_of (by rw [hq, fst_hit (p := fun i => decide (un i = c)) (by omega) (decide_eq_true h17)]; rfl)) (by omega) (by omega)
  refine V.lvs [1, 2, 0] rfl ?_
  exact L2 _ 0 (⟨by omega, rfl⟩) (Nat.lt_succ_self _)
set_option maxRecDepth 100000 in
set_option maxHeartbeats 4000000 in
theorem c_X8_names (l : Launch) (E : Et) (k : Nat) (th : Nat) (tr : Nat) (wh : Int32) (g : Option Nat) (q : Nat → Nat) (z : Nat → Nat) (nb : Int32) (wa : Int32) (wd : Int64) (ev : Nat) (al : Int32) (wl : Int64) (gr7 : Nat) (cy : Nat → Nat) (bl : Int32) (kp : Nat) (nc : Nat) (cb : Nat → Nat) (na : Nat → Int64) (ns : Nat → Nat) (nu : Nat → Nat) (w : Int64) (so_ : Nat) (nr : Nat) (hnc : nc < 18) : Ct l E yX8_names cX8_names 5 none 0 0 0 [.ref k, .long w, .int (nI so_), .int (nI nr)] [ob k 8 [.int (nI th), .int (nI tr), .int wh, va_rf g, .ref gr7, .ref (q 5), .int (nI (z 6)), .int (nI (z 7)), .int (nI (z 8)), .int (nI (z 9)), .int (nI (z 10)), .int nb, .int (nI (z 12)), .int wa, .long wd, .ref (q 15), .ref (q 16), .ref (q 17), .ref (q 18), .int (nI (z 19)), .int (nI (z 20)), .ref (q 21), .long (lN ev), .ref (q 23), .ref (q 24), .int (nI (z 25)), .ref (q 26), .int al, .long wl, .int (nI (z 29))], ob gr7 7 [.int bl, .int (nI (cy 1)), .int (nI (cy 2)), .int (nI (cy 3)), .int (nI (cy 4)), .int (nI (cy 5)), .int (nI (cy 6)), .int (nI (cy 7)), .int (nI kp), .int (nI nc), .ref (cb 0), .ref (cb 1), .ref (cb 2), .ref (cb 3), .ref (cb 4), .ref (cb 5), .ref (cb 6), .ref (cb 7), .ref (cb 8), .ref (cb 9), .ref (cb 10), .ref (cb 11)], aL E (cb 9) 18 na, aN E (cb 10) 18 ns, aN E (cb 11) 18 nu] (wrV [ob k 8 [.int (nI th), .int (nI tr), .int wh, va_rf g, .ref gr7, .ref (q 5), .int (nI (z 6)), .int (nI (z 7)), .int (nI (z 8)), .int (nI (z 9)), .int (nI (z 10)), .int nb, .int (nI (z 12)), .int wa, .long wd, .ref (q 15), .ref (q 16), .ref (q 17), .ref (q 18), .int (nI (z 19)), .int (nI (z 20)), .ref (q 21), .long (lN ev), .ref (q 23), .ref (q 24), .int (nI (z 25)), .ref (q 26), .int al, .long wl, .int (nI (z 29))], ob gr7 7 [.int bl, .int (nI (cy 1)), .int (nI (cy 2)), .int (nI (cy 3)), .int (nI (cy 4)), .int (nI (cy 5)), .int (nI (cy 6)), .int (nI (cy 7)), .int (nI kp), .int (nI (nc + 1)), .ref (cb 0), .ref (cb 1), .ref (cb 2), .ref (cb 3), .ref (cb 4), .ref (cb 5), .ref (cb 6), .ref (cb 7), .ref (cb 8), .ref (cb 9), .ref (cb 10), .ref (cb 11)], aL E (cb 9) 18 (vp_updL na nc w), aN E (cb 10) 18 (upN ns nc so_), aN E (cb 11) 18 (upN nu nc nr)]) := by
  refine Ct.intro (by decide +kernel) (Nat.le_of_ble_eq_true rfl) (lv := [(0, .ref k), (1, .long w), (3, .int (nI so_)), (4, .int (nI nr))]) rfl ?_
  intro Z X Y
  refine v_aload_n X dX8_names_0 rfl 0 rfl ?_
  refine v_get X kcX8 fl_X8_142 dX8_names_1 0 rfl rfl ?_
  refine v_getN X kcX7 fl_X8_159 dX8_names_4 1 rfl rfl ?_
  refine v_aload_n X dX8_names_7 rfl 0 rfl ?_
  refine v_get X kcX8 fl_X8_142 dX8_names_8 0 rfl rfl ?_
  refine v_getN X kcX7 fl_X8_162 dX8_names_11 1 rfl rfl ?_
  refine v_lload_n X dX8_names_14 rfl 1 rfl ?_
  refine v_last X dX8_names_15 2 rfl (by omega) (by decide) (ws' := [ob k 8 [.int (nI th), .int (nI tr), .int wh, va_rf g, .ref gr7, .ref (q 5), .int (nI (z 6)), .int (nI (z 7)), .int (nI (z 8)), .int (nI (z 9)), .int (nI (z 10)), .int nb, .int (nI (z 12)), .int wa, .long wd, .ref (q 15), .ref (q 16), .ref (q 17), .ref (q 18), .int (nI (z 19)), .int (nI (z 20)), .ref (q 21), .long (lN ev), .ref (q 23), .ref (q 24), .int (nI (z 25)), .ref (q 26), .int al, .long wl, .int (nI (z 29))], ob gr7 7 [.int bl, .int (nI (cy 1)), .int (nI (cy 2)), .int (nI (cy 3)), .int (nI (cy 4)), .int (nI (cy 5)), .int (nI (cy 6)), .int (nI (cy 7)), .int (nI kp), .int (nI nc), .ref (cb 0), .ref (cb 1), .ref (cb 2), .ref (cb 3), .ref (cb 4), .ref (cb 5), .ref (cb 6), .ref (cb 7), .ref (cb 8), .ref (cb 9), .ref (cb 10), .ref (cb 11)], aL E (cb 9) 18 (vp_updL na nc w), aN E (cb 10) 18 ns, aN E (cb 11) 18 nu]) rfl ?_
  refine v_aload_n X dX8_names_16 rfl 0 rfl ?_
  refine v_get X kcX8 fl_X8_142 dX8_names_17 0 rfl rfl ?_
  refine v_getN X kcX7 fl_X8_165 dX8_names_20 1 rfl rfl ?_
  refine v_aload_n X dX8_names_23 rfl 0 rfl ?_
  refine v_get X kcX8 fl_X8_142 dX8_names_24 0 rfl rfl ?_
  refine v_getN X kcX7 fl_X8_162 dX8_names_27 1 rfl rfl ?_
  refine v_iload_n X dX8_names_30 rfl 2 rfl ?_
  refine v_iast X dX8_names_31 3 rfl (by omega) (by decide) (ws' := [ob k 8 [.int (nI th), .int (nI tr), .int wh, va_rf g, .ref gr7, .ref (q 5), .int (nI (z 6)), .int (nI (z 7)), .int (nI (z 8)), .int (nI (z 9)), .int (nI (z 10)), .int nb, .int (nI (z 12)), .int wa, .long wd, .ref (q 15), .ref (q 16), .ref (q 17), .ref (q 18), .int (nI (z 19)), .int (nI (z 20)), .ref (q 21), .long (lN ev), .ref (q 23), .ref (q 24), .int (nI (z 25)), .ref (q 26), .int al, .long wl, .int (nI (z 29))], ob gr7 7 [.int bl, .int (nI (cy 1)), .int (nI (cy 2)), .int (nI (cy 3)), .int (nI (cy 4)), .int (nI (cy 5)), .int (nI (cy 6)), .int (nI (cy 7)), .int (nI kp), .int (nI nc), .ref (cb 0), .ref (cb 1), .ref (cb 2), .ref (cb 3), .ref (cb 4), .ref (cb 5), .ref (cb 6), .ref (cb 7), .ref (cb 8), .ref (cb 9), .ref (cb 10), .ref (cb 11)], aL E (cb 9) 18 (vp_updL na nc w), aN E (cb 10) 18 (upN ns nc so_), aN E (cb 11) 18 nu]) (by rw [upd_nI]; rfl) ?_
  refine v_aload_n X dX8_names_32 rfl 0 rfl ?_
  refine v_get X kcX8 fl_X8_142 dX8_names_33 0 rfl rfl ?_
  refine v_getN X kcX7 fl_X8_168 dX8_names_36 1 rfl rfl ?_
  refine v_aload_n X dX8_names_39 rfl 0 rfl ?_
  refine v_get X kcX8 fl_X8_142 dX8_names_40 0 rfl rfl ?_
  refine v_getN X kcX7 fl_X8_162 dX8_names_43 1 rfl rfl ?_
  refine v_iload X dX8_names_46 3 rfl ?_
  refine v_iast X dX8_names_48 4 rfl (by omega) (by decide) (ws' := [ob k 8 [.int (nI th), .int (nI tr), .int wh, va_rf g, .ref gr7, .ref (q 5), .int (nI (z 6)), .int (nI (z 7)), .int (nI (z 8)), .int (nI (z 9)), .int (nI (z 10)), .int nb, .int (nI (z 12)), .int wa, .long wd, .ref (q 15), .ref (q 16), .ref (q 17), .ref (q 18), .int (nI (z 19)), .int (nI (z 20)), .ref (q 21), .long (lN ev), .ref (q 23), .ref (q 24), .int (nI (z 25)), .ref (q 26), .int al, .long wl, .int (nI (z 29))], ob gr7 7 [.int bl, .int (nI (cy 1)), .int (nI (cy 2)), .int (nI (cy 3)), .int (nI (cy 4)), .int (nI (cy 5)), .int (nI (cy 6)), .int (nI (cy 7)), .int (nI kp), .int (nI nc), .ref (cb 0), .ref (cb 1), .ref (cb 2), .ref (cb 3), .ref (cb 4), .ref (cb 5), .ref (cb 6), .ref (cb 7), .ref (cb 8), .ref (cb 9), .ref (cb 10), .ref (cb 11)], aL E (cb 9) 18 (vp_updL na nc w), aN E (cb 10) 18 (upN ns nc so_), aN E (cb 11) 18 (upN nu nc nr)]) (by rw [upd_nI]; rfl) ?_
  refine v_aload_n X dX8_names_49 rfl 0 rfl ?_
  refine v_get X kcX8 fl_X8_142 dX8_names_50 0 rfl rfl ?_
  refine v_dup X dX8_names_53 rfl ?_
  refine v_getN X kcX7 fl_X8_162 dX8_names_54 1 rfl rfl ?_
  refine v_iconst X dX8_names_57 (v := nI 1) (by decide) ?_
  refine v_iadd X dX8_names_58 ?_
  refine v_eqi (x' := nI (nc + 1)) (nI_add _ _) ?_
  refine v_putN X kcX7 fl_X8_162 dX8_names_59 1 rfl (ws' := [ob k 8 [.int (nI th), .int (nI tr), .int wh, va_rf g, .ref gr7, .ref (q 5), .int (nI (z 6)), .int (nI (z 7)), .int (nI (z 8)), .int (nI (z 9)), .int (nI (z 10)), .int nb, .int (nI (z 12)), .int wa, .long wd, .ref (q 15), .ref (q 16), .ref (q 17), .ref (q 18), .int (nI (z 19)), .int (nI (z 20)), .ref (q 21), .long (lN ev), .ref (q 23), .ref (q 24), .int (nI (z 25)), .ref (q 26), .int al, .long wl, .int (nI (z 29))], ob gr7 7 [.int bl, .int (nI (cy 1)), .int (nI (cy 2)), .int (nI (cy 3)), .int (nI (cy 4)), .int (nI (cy 5)), .int (nI (cy 6)), .int (nI (cy 7)), .int (nI kp), .int (nI (nc + 1)), .ref (cb 0), .ref (cb 1), .ref (cb 2), .ref (cb 3), .ref (cb 4), .ref (cb 5), .ref (cb 6), .ref (cb 7), .ref (cb 8), .ref (cb 9), .ref (cb 10), .ref (cb 11)], aL E (cb 9) 18 (vp_updL na nc w), aN E (cb 10) 18 (upN ns nc so_), aN E (cb 11) 18 (upN nu nc nr)]) rfl rfl ?_
  exact v_vret X Y dX8_names_62 (wrV_of rfl) (by omega) (by omega)
