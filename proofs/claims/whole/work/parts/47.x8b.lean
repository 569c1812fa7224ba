set_option maxRecDepth 100000 in
set_option maxHeartbeats 4000000 in
theorem c_X8_good (l : Launch) (E : Et) (k : Nat) (th : Nat) (tr : Nat) (wh : Int32) (g : Nat) (rr : Option Nat) (q : Nat → Nat) (z : Nat → Nat) (nb : Int32) (wa : Int32) (wd : Int64) (ev : Nat) (al : Int32) (wl : Int64) (a : Int32)  : Ct l E yX8_good cX8_good 2 (some .int) 0 0 0 [.ref k, .int a] [ob k 8 [.int (nI th), .int (nI tr), .int wh, .ref g, va_rf rr, .ref (q 5), .int (nI (z 6)), .int (nI (z 7)), .int (nI (z 8)), .int (nI (z 9)), .int (nI (z 10)), .int nb, .int (nI (z 12)), .int wa, .long wd, .ref (q 15), .ref (q 16), .ref (q 17), .ref (q 18), .int (nI (z 19)), .int (nI (z 20)), .ref (q 21), .long (lN ev), .ref (q 23), .ref (q 24), .int (nI (z 25)), .ref (q 26), .int al, .long wl, .int (nI (z 29))]] (wrI [ob k 8 [.int (nI th), .int (nI 0), .int (-1), .ref g, va_rf rr, .ref (q 5), .int (nI (z 6)), .int (nI (z 7)), .int (nI (z 8)), .int (nI (z 9)), .int (nI (z 10)), .int nb, .int (nI (z 12)), .int wa, .long wd, .ref (q 15), .ref (q 16), .ref (q 17), .ref (q 18), .int (nI (z 19)), .int (nI (z 20)), .ref (q 21), .long (lN ev), .ref (q 23), .ref (q 24), .int (nI (z 25)), .ref (q 26), .int al, .long wl, .int (nI (z 29))]] a) := by
  refine Ct.intro (by decide +kernel) (Nat.le_of_ble_eq_true rfl) (lv := [(0, .ref k), (1, .int a)]) rfl ?_
  intro Z X Y
  refine v_aload_n X dX8_good_0 rfl 0 rfl ?_
  refine v_iconst X dX8_good_1 (v := nI 0) (by decide) ?_
  refine v_put X kcX8 fl_X8_46 dX8_good_2 0 rfl (ws' := [ob k 8 [.int (nI th), .int (nI 0), .int wh, .ref g, va_rf rr, .ref (q 5), .int (nI (z 6)), .int (nI (z 7)), .int (nI (z 8)), .int (nI (z 9)), .int (nI (z 10)), .int nb, .int (nI (z 12)), .int wa, .long wd, .ref (q 15), .ref (q 16), .ref (q 17), .ref (q 18), .int (nI (z 19)), .int (nI (z 20)), .ref (q 21), .long (lN ev), .ref (q 23), .ref (q 24), .int (nI (z 25)), .ref (q 26), .int al, .long wl, .int (nI (z 29))]]) rfl rfl ?_
  refine v_aload_n X dX8_good_5 rfl 0 rfl ?_
  refine v_iconst X dX8_good_6 (v := (-1)) (by decide) ?_
  refine v_put X kcX8 fl_X8_9 dX8_good_7 0 rfl (ws' := [ob k 8 [.int (nI th), .int (nI 0), .int (-1), .ref g, va_rf rr, .ref (q 5), .int (nI (z 6)), .int (nI (z 7)), .int (nI (z 8)), .int (nI (z 9)), .int (nI (z 10)), .int nb, .int (nI (z 12)), .int wa, .long wd, .ref (q 15), .ref (q 16), .ref (q 17), .ref (q 18), .int (nI (z 19)), .int (nI (z 20)), .ref (q 21), .long (lN ev), .ref (q 23), .ref (q 24), .int (nI (z 25)), .ref (q 26), .int al, .long wl, .int (nI (z 29))]]) rfl rfl ?_
  refine v_iload_n X dX8_good_10 rfl 1 rfl ?_
  exact v_iret X Y dX8_good_11 (wrI_of rfl rfl) (by omega) (by omega)
set_option maxRecDepth 100000 in
set_option maxHeartbeats 4000000 in
theorem c_X8_refused (l : Launch) (E : Et) (k : Nat) (th : Nat) (tr : Nat) (wh : Int32) (g : Nat) (rr : Option Nat) (q : Nat → Nat) (z : Nat → Nat) (nb : Int32) (wa : Int32) (wd : Int64) (ev : Nat) (al : Int32) (wl : Int64) (n : Nat)  : Ct l E yX8_refused cX8_refused 2 (some .int) 0 0 0 [.ref k, .int (nI n)] [ob k 8 [.int (nI th), .int (nI tr), .int wh, .ref g, va_rf rr, .ref (q 5), .int (nI (z 6)), .int (nI (z 7)), .int (nI (z 8)), .int (nI (z 9)), .int (nI (z 10)), .int nb, .int (nI (z 12)), .int wa, .long wd, .ref (q 15), .ref (q 16), .ref (q 17), .ref (q 18), .int (nI (z 19)), .int (nI (z 20)), .ref (q 21), .long (lN ev), .ref (q 23), .ref (q 24), .int (nI (z 25)), .ref (q 26), .int al, .long wl, .int (nI (z 29))]] (wrI [ob k 8 [.int (nI th), .int (nI n), .int (-1), .ref g, va_rf rr, .ref (q 5), .int (nI (z 6)), .int (nI (z 7)), .int (nI (z 8)), .int (nI (z 9)), .int (nI (z 10)), .int nb, .int (nI (z 12)), .int wa, .long wd, .ref (q 15), .ref (q 16), .ref (q 17), .ref (q 18), .int (nI (z 19)), .int (nI (z 20)), .ref (q 21), .long (lN ev), .ref (q 23), .ref (q 24), .int (nI (z 25)), .ref (q 26), .int al, .long wl, .int (nI (z 29))]] (-1)) := by
  refine Ct.intro (by decide +kernel) (Nat.le_of_ble_eq_true rfl) (lv := [(0, .ref k), (1, .int (nI n))]) rfl ?_
  intro Z X Y
  refine v_aload_n X dX8_refused_0 rfl 0 rfl ?_
  refine v_iload_n X dX8_refused_1 rfl 1 rfl ?_
  refine v_put X kcX8 fl_X8_46 dX8_refused_2 0 rfl (ws' := [ob k 8 [.int (nI th), .int (nI n), .int wh, .ref g, va_rf rr, .ref (q 5), .int (nI (z 6)), .int (nI (z 7)), .int (nI (z 8)), .int (nI (z 9)), .int (nI (z 10)), .int nb, .int (nI (z 12)), .int wa, .long wd, .ref (q 15), .ref (q 16), .ref (q 17), .ref (q 18), .int (nI (z 19)), .int (nI (z 20)), .ref (q 21), .long (lN ev), .ref (q 23), .ref (q 24), .int (nI (z 25)), .ref (q 26), .int al, .long wl, .int (nI (z 29))]]) rfl rfl ?_
  refine v_aload_n X dX8_refused_5 rfl 0 rfl ?_
  refine v_iconst X dX8_refused_6 (v := (-1)) (by decide) ?_
  refine v_put X kcX8 fl_X8_9 dX8_refused_7 0 rfl (ws' := [ob k 8 [.int (nI th), .int (nI n), .int (-1), .ref g, va_rf rr, .ref (q 5), .int (nI (z 6)), .int (nI (z 7)), .int (nI (z 8)), .int (nI (z 9)), .int (nI (z 10)), .int nb, .int (nI (z 12)), .int wa, .long wd, .ref (q 15), .ref (q 16), .ref (q 17), .ref (q 18), .int (nI (z 19)), .int (nI (z 20)), .ref (q 21), .long (lN ev), .ref (q 23), .ref (q 24), .int (nI (z 25)), .ref (q 26), .int al, .long wl, .int (nI (z 29))]]) rfl rfl ?_
  refine v_iconst X dX8_refused_10 (v := (-1)) (by decide) ?_
  exact v_iret X Y dX8_refused_11 (wrI_of rfl rfl) (by omega) (by omega)
set_option maxRecDepth 100000 in
set_option maxHeartbeats 4000000 in
theorem c_X8_works (l : Launch) (E : Et) (k : Nat) (th : Nat) (tr : Nat) (wh : Int32) (g : Nat) (rr : Option Nat) (q : Nat → Nat) (z : Nat → Nat) (nb : Int32) (wa : Int32) (wd : Int64) (ev : Nat) (al : Int32) (wl : Int64) (xf : Nat → Int32) (vf : Nat → Int32)  : Ct l E yX8_works cX8_works 2 none 0 0 0 [.ref k] [ob k 8 [.int (nI th), .int (nI tr), .int wh, .ref g, va_rf rr, .ref (q 5), .int (nI (z 6)), .int (nI (z 7)), .int (nI (z 8)), .int (nI (z 9)), .int (nI (z 10)), .int nb, .int (nI (z 12)), .int wa, .long wd, .ref (q 15), .ref (q 16), .ref (q 17), .ref (q 18), .int (nI (z 19)), .int (nI (z 20)), .ref (q 21), .long (lN ev), .ref (q 23), .ref (q 24), .int (nI (z 25)), .ref (q 26), .int al, .long wl, .int (nI (z 29))], aI E (q 15) 25 vf, aI E (q 16) 25 xf] (wrV [ob k 8 [.int (nI th), .int (nI tr), .int wh, .ref g, va_rf rr, .ref (q 5), .int (nI (z 6)), .int (nI (z 7)), .int (nI (z 8)), .int (nI (z 9)), .int (nI (z 10)), .int nb, .int (nI (z 12)), .int wa, .long wd, .ref (q 15), .ref (q 16), .ref (q 17), .ref (q 18), .int (nI (z 19)), .int (nI (z 20)), .ref (q 21), .long (lN ev), .ref (q 23), .ref (q 24), .int (nI (z 25)), .ref (q 26), .int al, .long wl, .int (nI (z 29))], aI E (q 15) 25 vf, aI E (q 16) 25 vf]) := by
  refine Ct.intro (by decide +kernel) (Nat.le_of_ble_eq_true rfl) (lv := [(0, .ref k)]) rfl ?_
  intro Z X Y
  refine v_iconst X dX8_works_0 (v := nI 0) (by decide) ?_
  refine v_istore_n X dX8_works_1 rfl (by decide) (lv' := [(1, .int (nI 0)), (0, .ref k)]) rfl ?_
  have L2 : ∀ (j2 : Nat) (vc : Nat) (vg : Nat → Int32), (vc ≤ 25 ∧ ∀ j, j < vc → vg j = vf j) → 25 - vc < j2 → V E Z 2 [(0, .ref k), (1, .int (nI vc))] [] [ob k 8 [.int (nI th), .int (nI tr), .int wh, .ref g, va_rf rr, .ref (q 5), .int (nI (z 6)), .int (nI (z 7)), .int (nI (z 8)), .int (nI (z 9)), .int (nI (z 10)), .int nb, .int (nI (z 12)), .int wa, .long wd, .ref (q 15), .ref (q 16), .ref (q 17), .ref (q 18), .int (nI (z 19)), .int (nI (z 20)), .ref (q 21), .long (lN ev), .ref (q 23), .ref (q 24), .int (nI (z 25)), .ref (q 26), .int al, .long wl, .int (nI (z 29))], aI E (q 15) 25 vf, aI E (q 16) 25 vg] 0 0 := by
    intro j2
    induction j2 with
    | zero => intro vc vg hI hM; exact absurd hM (Nat.not_lt_zero _)
    | succ j2 ih2 =>
      intro vc vg hI2 hM2
      obtain ⟨hc, hg⟩ := id hI2
      refine v_iload_n X dX8_works_2 rfl 1 rfl ?_
      refine v_bipush X dX8_works_3 (v := nI 25) (by decide) ?_
      refine v_icmpN_ge X dX8_works_5 (tgt := 26) (by decide) (by omega) (by decide) (fun h5 => ?_) (fun h5 => ?_)
      · refine V.arI 2 rfl (g' := vf) (fun j hj => hg j (by omega)) (ws' := [ob k 8 [.int (nI th), .int (nI tr), .int wh, .ref g, va_rf rr, .ref (q 5), .int (nI (z 6)), .int (nI (z 7)), .int (nI (z 8)), .int (nI (z 9)), .int (nI (z 10)), .int nb, .int (nI (z 12)), .int wa, .long wd, .ref (q 15), .ref (q 16), .ref (q 17), .ref (q 18), .int (nI (z 19)), .int (nI (z 20)), .ref (q 21), .long (lN ev), .ref (q 23), .ref (q 24), .int (nI (z 25)), .ref (q 26), .int al, .long wl, .int (nI (z 29))], aI E (q 15) 25 vf, aI E (q 16) 25 vf]) rfl ?_
        exact v_vret X Y dX8_works_26 (wrV_of rfl) (by omega) (by omega)
      · refine v_aload_n X dX8_works_8 rfl 0 rfl ?_
        refine v_get X kcX8 fl_X8_21 dX8_works_9 0 rfl rfl ?_
        refine v_iload_n X dX8_works_12 rfl 1 rfl ?_
        refine v_aload_n X dX8_works_13 rfl 0 rfl ?_
        refine v_get X kcX8 fl_X8_17 dX8_works_14 0 rfl rfl ?_
        refine v_iload_n X dX8_works_17 rfl 1 rfl ?_
        refine v_iald X dX8_works_18 1 rfl (by omega) (by decide) ?_
        refine v_iast X dX8_works_19 2 rfl (by omega) (by decide) (ws' := [ob k 8 [.int (nI th), .int (nI tr), .int wh, .ref g, va_rf rr, .ref (q 5), .int (nI (z 6)), .int (nI (z 7)), .int (nI (z 8)), .int (nI (z 9)), .int (nI (z 10)), .int nb, .int (nI (z 12)), .int wa, .long wd, .ref (q 15), .ref (q 16), .ref (q 17), .ref (q 18), .int (nI (z 19)), .int (nI (z 20)), .ref (q 21), .long (lN ev), .ref (q 23), .ref (q 24), .int (nI (z 25)), .ref (q 26), .int al, .long wl, .int (nI (z 29))], aI E (q 15) 25 vf, aI E (q 16) 25 (upd vg vc (vf vc))]) rfl ?_
        refine v_iinc X dX8_works_20 1 rfl (v := nI (vc + 1)) (nI_inc vc) (by decide) (lv' := [(1, .int (nI (vc + 1))), (0, .ref k)]) rfl ?_
        refine v_goto X dX8_works_23 (tgt := 2) (by decide) ?_
        refine V.lvs [1, 0] rfl ?_
        exact ih2 (vc + 1) (upd vg vc (vf vc)) (⟨by omega, fillI hg rfl⟩) (by omega)
  refine V.lvs [1, 0] rfl ?_
  exact L2 _ 0 xf (⟨by omega, fun j hj => absurd hj (Nat.not_lt_zero j)⟩) (Nat.lt_succ_self _)
