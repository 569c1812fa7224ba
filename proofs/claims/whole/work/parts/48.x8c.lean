set_option maxRecDepth 100000 in
set_option maxHeartbeats 4000000 in
theorem c_X8_thrown (l : Launch) (E : Et) (k : Nat) (th : Nat) (tr : Nat) (wh : Int32) (g : Nat) (rr : Option Nat) (q : Nat → Nat) (z : Nat → Nat) (nb : Int32) (wa : Int32) (wd : Int64) (ev : Nat) (al : Int32) (wl : Int64)  : Ct l E yX8_thrown cX8_thrown 1 (some .int) 0 0 0 [.ref k] [ob k 8 [.int (nI th), .int (nI tr), .int wh, .ref g, va_rf rr, .ref (q 5), .int (nI (z 6)), .int (nI (z 7)), .int (nI (z 8)), .int (nI (z 9)), .int (nI (z 10)), .int nb, .int (nI (z 12)), .int wa, .long wd, .ref (q 15), .ref (q 16), .ref (q 17), .ref (q 18), .int (nI (z 19)), .int (nI (z 20)), .ref (q 21), .long (lN ev), .ref (q 23), .ref (q 24), .int (nI (z 25)), .ref (q 26), .int al, .long wl, .int (nI (z 29))]] (roI [ob k 8 [.int (nI th), .int (nI tr), .int wh, .ref g, va_rf rr, .ref (q 5), .int (nI (z 6)), .int (nI (z 7)), .int (nI (z 8)), .int (nI (z 9)), .int (nI (z 10)), .int nb, .int (nI (z 12)), .int wa, .long wd, .ref (q 15), .ref (q 16), .ref (q 17), .ref (q 18), .int (nI (z 19)), .int (nI (z 20)), .ref (q 21), .long (lN ev), .ref (q 23), .ref (q 24), .int (nI (z 25)), .ref (q 26), .int al, .long wl, .int (nI (z 29))]] (nI th)) := by
  refine Ct.intro (by decide +kernel) (Nat.le_of_ble_eq_true rfl) (lv := [(0, .ref k)]) rfl ?_
  intro Z X Y
  refine v_aload_n X dX8_thrown_0 rfl 0 rfl ?_
  refine v_get X kcX8 fl_X8_43 dX8_thrown_1 0 rfl rfl ?_
  exact v_iret X Y dX8_thrown_4 (roI_of rfl) (by omega) (by omega)
set_option maxRecDepth 100000 in
set_option maxHeartbeats 4000000 in
theorem c_X8_trouble (l : Launch) (E : Et) (k : Nat) (th : Nat) (tr : Nat) (wh : Int32) (g : Nat) (rr : Option Nat) (q : Nat → Nat) (z : Nat → Nat) (nb : Int32) (wa : Int32) (wd : Int64) (ev : Nat) (al : Int32) (wl : Int64)  : Ct l E yX8_trouble cX8_trouble 1 (some .int) 1 0 0 [.ref k] [ob k 8 [.int (nI th), .int (nI tr), .int wh, .ref g, va_rf rr, .ref (q 5), .int (nI (z 6)), .int (nI (z 7)), .int (nI (z 8)), .int (nI (z 9)), .int (nI (z 10)), .int nb, .int (nI (z 12)), .int wa, .long wd, .ref (q 15), .ref (q 16), .ref (q 17), .ref (q 18), .int (nI (z 19)), .int (nI (z 20)), .ref (q 21), .long (lN ev), .ref (q 23), .ref (q 24), .int (nI (z 25)), .ref (q 26), .int al, .long wl, .int (nI (z 29))]] (wrI [ob k 8 [.int (nI 0), .int (nI tr), .int wh, .ref g, va_rf rr, .ref (q 5), .int (nI (z 6)), .int (nI (z 7)), .int (nI (z 8)), .int (nI (z 9)), .int (nI (z 10)), .int nb, .int (nI (z 12)), .int wa, .long wd, .ref (q 15), .ref (q 16), .ref (q 17), .ref (q 18), .int (nI (z 19)), .int (nI (z 20)), .ref (q 21), .long (lN ev), .ref (q 23), .ref (q 24), .int (nI (z 25)), .ref (q 26), .int al, .long wl, .int (nI (z 29))]] (nI tr)) := by
  refine Ct.intro (by decide +kernel) (Nat.le_of_ble_eq_true rfl) (lv := [(0, .ref k)]) rfl ?_
  intro Z X Y
  refine v_aload_n X dX8_trouble_0 rfl 0 rfl ?_
  refine v_iconst X dX8_trouble_1 (v := nI 0) (by decide) ?_
  refine v_put X kcX8 fl_X8_43 dX8_trouble_2 0 rfl (ws' := [ob k 8 [.int (nI 0), .int (nI tr), .int wh, .ref g, va_rf rr, .ref (q 5), .int (nI (z 6)), .int (nI (z 7)), .int (nI (z 8)), .int (nI (z 9)), .int (nI (z 10)), .int nb, .int (nI (z 12)), .int wa, .long wd, .ref (q 15), .ref (q 16), .ref (q 17), .ref (q 18), .int (nI (z 19)), .int (nI (z 20)), .ref (q 21), .long (lN ev), .ref (q 23), .ref (q 24), .int (nI (z 25)), .ref (q 26), .int al, .long wl, .int (nI (z 29))]]) rfl rfl ?_
  refine v_aload_n X dX8_trouble_5 rfl 0 rfl ?_
  refine v_get X kcX8 fl_X8_46 dX8_trouble_6 0 rfl rfl ?_
  exact v_iret X Y dX8_trouble_9 (wrI_of rfl rfl) (by omega) (by omega)
set_option maxRecDepth 100000 in
set_option maxHeartbeats 4000000 in
theorem c_X8_trouble_n (l : Launch) (E : Et) (k : Nat) (th : Nat) (tr : Nat) (wh : Int32) (rr : Option Nat) (q : Nat → Nat) (z : Nat → Nat) (nb : Int32) (wa : Int32) (wd : Int64) (ev : Nat) (al : Int32) (wl : Int64)  : Ct l E yX8_trouble cX8_trouble 1 (some .int) 1 0 0 [.ref k] [ob k 8 [.int (nI th), .int (nI tr), .int wh, .null, va_rf rr, .ref (q 5), .int (nI (z 6)), .int (nI (z 7)), .int (nI (z 8)), .int (nI (z 9)), .int (nI (z 10)), .int nb, .int (nI (z 12)), .int wa, .long wd, .ref (q 15), .ref (q 16), .ref (q 17), .ref (q 18), .int (nI (z 19)), .int (nI (z 20)), .ref (q 21), .long (lN ev), .ref (q 23), .ref (q 24), .int (nI (z 25)), .ref (q 26), .int al, .long wl, .int (nI (z 29))]] (wrI [ob k 8 [.int (nI 0), .int (nI tr), .int wh, .null, va_rf rr, .ref (q 5), .int (nI (z 6)), .int (nI (z 7)), .int (nI (z 8)), .int (nI (z 9)), .int (nI (z 10)), .int nb, .int (nI (z 12)), .int wa, .long wd, .ref (q 15), .ref (q 16), .ref (q 17), .ref (q 18), .int (nI (z 19)), .int (nI (z 20)), .ref (q 21), .long (lN ev), .ref (q 23), .ref (q 24), .int (nI (z 25)), .ref (q 26), .int al, .long wl, .int (nI (z 29))]] (nI tr)) := by
  refine Ct.intro (by decide +kernel) (Nat.le_of_ble_eq_true rfl) (lv := [(0, .ref k)]) rfl ?_
  intro Z X Y
  refine v_aload_n X dX8_trouble_0 rfl 0 rfl ?_
  refine v_iconst X dX8_trouble_1 (v := nI 0) (by decide) ?_
  refine v_put X kcX8 fl_X8_43 dX8_trouble_2 0 rfl (ws' := [ob k 8 [.int (nI 0), .int (nI tr), .int wh, .null, va_rf rr, .ref (q 5), .int (nI (z 6)), .int (nI (z 7)), .int (nI (z 8)), .int (nI (z 9)), .int (nI (z 10)), .int nb, .int (nI (z 12)), .int wa, .long wd, .ref (q 15), .ref (q 16), .ref (q 17), .ref (q 18), .int (nI (z 19)), .int (nI (z 20)), .ref (q 21), .long (lN ev), .ref (q 23), .ref (q 24), .int (nI (z 25)), .ref (q 26), .int al, .long wl, .int (nI (z 29))]]) rfl rfl ?_
  refine v_aload_n X dX8_trouble_5 rfl 0 rfl ?_
  refine v_get X kcX8 fl_X8_46 dX8_trouble_6 0 rfl rfl ?_
  exact v_iret X Y dX8_trouble_9 (wrI_of rfl rfl) (by omega) (by omega)
set_option maxRecDepth 100000 in
set_option maxHeartbeats 4000000 in
theorem c_X8_fault (l : Launch) (E : Et) (k : Nat) (th : Nat) (tr : Nat) (wh : Int32) (g : Nat) (rr : Option Nat) (q : Nat → Nat) (z : Nat → Nat) (nb : Int32) (wa : Int32) (wd : Int64) (ev : Nat) (al : Int32) (wl : Int64)  : Ct l E yX8_fault cX8_fault 1 (some .int) 1 0 0 [.ref k] [ob k 8 [.int (nI th), .int (nI tr), .int wh, .ref g, va_rf rr, .ref (q 5), .int (nI (z 6)), .int (nI (z 7)), .int (nI (z 8)), .int (nI (z 9)), .int (nI (z 10)), .int nb, .int (nI (z 12)), .int wa, .long wd, .ref (q 15), .ref (q 16), .ref (q 17), .ref (q 18), .int (nI (z 19)), .int (nI (z 20)), .ref (q 21), .long (lN ev), .ref (q 23), .ref (q 24), .int (nI (z 25)), .ref (q 26), .int al, .long wl, .int (nI (z 29))]] (wrI [ob k 8 [.int (nI 0), .int (nI tr), .int wh, .ref g, va_rf rr, .ref (q 5), .int (nI (z 6)), .int (nI (z 7)), .int (nI (z 8)), .int (nI (z 9)), .int (nI (z 10)), .int nb, .int (nI (z 12)), .int wa, .long wd, .ref (q 15), .ref (q 16), .ref (q 17), .ref (q 18), .int (nI (z 19)), .int (nI (z 20)), .ref (q 21), .long (lN ev), .ref (q 23), .ref (q 24), .int (nI (z 25)), .ref (q 26), .int al, .long wl, .int (nI (z 29))]] (nI (z 12))) := by
  refine Ct.intro (by decide +kernel) (Nat.le_of_ble_eq_true rfl) (lv := [(0, .ref k)]) rfl ?_
  intro Z X Y
  refine v_aload_n X dX8_fault_0 rfl 0 rfl ?_
  refine v_iconst X dX8_fault_1 (v := nI 0) (by decide) ?_
  refine v_put X kcX8 fl_X8_43 dX8_fault_2 0 rfl (ws' := [ob k 8 [.int (nI 0), .int (nI tr), .int wh, .ref g, va_rf rr, .ref (q 5), .int (nI (z 6)), .int (nI (z 7)), .int (nI (z 8)), .int (nI (z 9)), .int (nI (z 10)), .int nb, .int (nI (z 12)), .int wa, .long wd, .ref (q 15), .ref (q 16), .ref (q 17), .ref (q 18), .int (nI (z 19)), .int (nI (z 20)), .ref (q 21), .long (lN ev), .ref (q 23), .ref (q 24), .int (nI (z 25)), .ref (q 26), .int al, .long wl, .int (nI (z 29))]]) rfl rfl ?_
  refine v_aload_n X dX8_fault_5 rfl 0 rfl ?_
  refine v_get X kcX8 fl_X8_101 dX8_fault_6 0 rfl rfl ?_
  exact v_iret X Y dX8_fault_9 (wrI_of rfl rfl) (by omega) (by omega)
set_option maxRecDepth 100000 in
set_option maxHeartbeats 4000000 in
theorem c_X8_fault_n (l : Launch) (E : Et) (k : Nat) (th : Nat) (tr : Nat) (wh : Int32) (rr : Option Nat) (q : Nat → Nat) (z : Nat → Nat) (nb : Int32) (wa : Int32) (wd : Int64) (ev : Nat) (al : Int32) (wl : Int64)  : Ct l E yX8_fault cX8_fault 1 (some .int) 1 0 0 [.ref k] [ob k 8 [.int (nI th), .int (nI tr), .int wh, .null, va_rf rr, .ref (q 5), .int (nI (z 6)), .int (nI (z 7)), .int (nI (z 8)), .int (nI (z 9)), .int (nI (z 10)), .int nb, .int (nI (z 12)), .int wa, .long wd, .ref (q 15), .ref (q 16), .ref (q 17), .ref (q 18), .int (nI (z 19)), .int (nI (z 20)), .ref (q 21), .long (lN ev), .ref (q 23), .ref (q 24), .int (nI (z 25)), .ref (q 26), .int al, .long wl, .int (nI (z 29))]] (wrI [ob k 8 [.int (nI 0), .int (nI tr), .int wh, .null, va_rf rr, .ref (q 5), .int (nI (z 6)), .int (nI (z 7)), .int (nI (z 8)), .int (nI (z 9)), .int (nI (z 10)), .int nb, .int (nI (z 12)), .int wa, .long wd, .ref (q 15), .ref (q 16), .ref (q 17), .ref (q 18), .int (nI (z 19)), .int (nI (z 20)), .ref (q 21), .long (lN ev), .ref (q 23), .ref (q 24), .int (nI (z 25)), .ref (q 26), .int al, .long wl, .int (nI (z 29))]] (nI (z 12))) := by
  refine Ct.intro (by decide +kernel) (Nat.le_of_ble_eq_true rfl) (lv := [(0, .ref k)]) rfl ?_
  intro Z X Y
  refine v_aload_n X dX8_fault_0 rfl 0 rfl ?_
  refine v_iconst X dX8_fault_1 (v := nI 0) (by decide) ?_
  refine v_put X kcX8 fl_X8_43 dX8_fault_2 0 rfl (ws' := [ob k 8 [.int (nI 0), .int (nI tr), .int wh, .null, va_rf rr, .ref (q 5), .int (nI (z 6)), .int (nI (z 7)), .int (nI (z 8)), .int (nI (z 9)), .int (nI (z 10)), .int nb, .int (nI (z 12)), .int wa, .long wd, .ref (q 15), .ref (q 16), .ref (q 17), .ref (q 18), .int (nI (z 19)), .int (nI (z 20)), .ref (q 21), .long (lN ev), .ref (q 23), .ref (q 24), .int (nI (z 25)), .ref (q 26), .int al, .long wl, .int (nI (z 29))]]) rfl rfl ?_
  refine v_aload_n X dX8_fault_5 rfl 0 rfl ?_
  refine v_get X kcX8 fl_X8_101 dX8_fault_6 0 rfl rfl ?_
  exact v_iret X Y dX8_fault_9 (wrI_of rfl rfl) (by omega) (by omega)
set_option maxRecDepth 100000 in
set_option maxHeartbeats 4000000 in
theorem c_X8_where (l : Launch) (E : Et) (k : Nat) (th : Nat) (tr : Nat) (wh : Int32) (g : Nat) (rr : Option Nat) (q : Nat → Nat) (z : Nat → Nat) (nb : Int32) (wa : Int32) (wd : Int64) (ev : Nat) (al : Int32) (wl : Int64)  : Ct l E yX8_where cX8_where 1 (some .int) 1 0 0 [.ref k] [ob k 8 [.int (nI th), .int (nI tr), .int wh, .ref g, va_rf rr, .ref (q 5), .int (nI (z 6)), .int (nI (z 7)), .int (nI (z 8)), .int (nI (z 9)), .int (nI (z 10)), .int nb, .int (nI (z 12)), .int wa, .long wd, .ref (q 15), .ref (q 16), .ref (q 17), .ref (q 18), .int (nI (z 19)), .int (nI (z 20)), .ref (q 21), .long (lN ev), .ref (q 23), .ref (q 24), .int (nI (z 25)), .ref (q 26), .int al, .long wl, .int (nI (z 29))]] (wrI [ob k 8 [.int (nI 0), .int (nI tr), .int wh, .ref g, va_rf rr, .ref (q 5), .int (nI (z 6)), .int (nI (z 7)), .int (nI (z 8)), .int (nI (z 9)), .int (nI (z 10)), .int nb, .int (nI (z 12)), .int wa, .long wd, .ref (q 15), .ref (q 16), .ref (q 17), .ref (q 18), .int (nI (z 19)), .int (nI (z 20)), .ref (q 21), .long (lN ev), .ref (q 23), .ref (q 24), .int (nI (z 25)), .ref (q 26), .int al, .long wl, .int (nI (z 29))]] wh) := by
  refine Ct.intro (by decide +kernel) (Nat.le_of_ble_eq_true rfl) (lv := [(0, .ref k)]) rfl ?_
  intro Z X Y
  refine v_aload_n X dX8_where_0 rfl 0 rfl ?_
  refine v_iconst X dX8_where_1 (v := nI 0) (by decide) ?_
  refine v_put X kcX8 fl_X8_43 dX8_where_2 0 rfl (ws' := [ob k 8 [.int (nI 0), .int (nI tr), .int wh, .ref g, va_rf rr, .ref (q 5), .int (nI (z 6)), .int (nI (z 7)), .int (nI (z 8)), .int (nI (z 9)), .int (nI (z 10)), .int nb, .int (nI (z 12)), .int wa, .long wd, .ref (q 15), .ref (q 16), .ref (q 17), .ref (q 18), .int (nI (z 19)), .int (nI (z 20)), .ref (q 21), .long (lN ev), .ref (q 23), .ref (q 24), .int (nI (z 25)), .ref (q 26), .int al, .long wl, .int (nI (z 29))]]) rfl rfl ?_
  refine v_aload_n X dX8_where_5 rfl 0 rfl ?_
  refine v_get X kcX8 fl_X8_9 dX8_where_6 0 rfl rfl ?_
  exact v_iret X Y dX8_where_9 (wrI_of rfl rfl) (by omega) (by omega)
set_option maxRecDepth 100000 in
set_option maxHeartbeats 4000000 in
theorem c_X8_where_n (l : Launch) (E : Et) (k : Nat) (th : Nat) (tr : Nat) (wh : Int32) (rr : Option Nat) (q : Nat → Nat) (z : Nat → Nat) (nb : Int32) (wa : Int32) (wd : Int64) (ev : Nat) (al : Int32) (wl : Int64)  : Ct l E yX8_where cX8_where 1 (some .int) 1 0 0 [.ref k] [ob k 8 [.int (nI th), .int (nI tr), .int wh, .null, va_rf rr, .ref (q 5), .int (nI (z 6)), .int (nI (z 7)), .int (nI (z 8)), .int (nI (z 9)), .int (nI (z 10)), .int nb, .int (nI (z 12)), .int wa, .long wd, .ref (q 15), .ref (q 16), .ref (q 17), .ref (q 18), .int (nI (z 19)), .int (nI (z 20)), .ref (q 21), .long (lN ev), .ref (q 23), .ref (q 24), .int (nI (z 25)), .ref (q 26), .int al, .long wl, .int (nI (z 29))]] (wrI [ob k 8 [.int (nI 0), .int (nI tr), .int wh, .null, va_rf rr, .ref (q 5), .int (nI (z 6)), .int (nI (z 7)), .int (nI (z 8)), .int (nI (z 9)), .int (nI (z 10)), .int nb, .int (nI (z 12)), .int wa, .long wd, .ref (q 15), .ref (q 16), .ref (q 17), .ref (q 18), .int (nI (z 19)), .int (nI (z 20)), .ref (q 21), .long (lN ev), .ref (q 23), .ref (q 24), .int (nI (z 25)), .ref (q 26), .int al, .long wl, .int (nI (z 29))]] wh) := by
  refine Ct.intro (by decide +kernel) (Nat.le_of_ble_eq_true rfl) (lv := [(0, .ref k)]) rfl ?_
  intro Z X Y
  refine v_aload_n X dX8_where_0 rfl 0 rfl ?_
  refine v_iconst X dX8_where_1 (v := nI 0) (by decide) ?_
  refine v_put X kcX8 fl_X8_43 dX8_where_2 0 rfl (ws' := [ob k 8 [.int (nI 0), .int (nI tr), .int wh, .null, va_rf rr, .ref (q 5), .int (nI (z 6)), .int (nI (z 7)), .int (nI (z 8)), .int (nI (z 9)), .int (nI (z 10)), .int nb, .int (nI (z 12)), .int wa, .long wd, .ref (q 15), .ref (q 16), .ref (q 17), .ref (q 18), .int (nI (z 19)), .int (nI (z 20)), .ref (q 21), .long (lN ev), .ref (q 23), .ref (q 24), .int (nI (z 25)), .ref (q 26), .int al, .long wl, .int (nI (z 29))]]) rfl rfl ?_
  refine v_aload_n X dX8_where_5 rfl 0 rfl ?_
  refine v_get X kcX8 fl_X8_9 dX8_where_6 0 rfl rfl ?_
  exact v_iret X Y dX8_where_9 (wrI_of rfl rfl) (by omega) (by omega)
set_option maxRecDepth 100000 in
set_option maxHeartbeats 4000000 in
theorem c_X8_denied (l : Launch) (E : Et) (k : Nat) (th : Nat) (tr : Nat) (wh : Int32) (g : Nat) (rr : Option Nat) (q : Nat → Nat) (z : Nat → Nat) (nb : Int32) (wa : Int32) (wd : Int64) (ev : Nat) (al : Int32) (wl : Int64) (n : Nat)  : Ct l E yX8_denied cX8_denied 2 (some .boolean) 1 0 0 [.ref k, .int (nI n)] [ob k 8 [.int (nI th), .int (nI tr), .int wh, .ref g, va_rf rr, .ref (q 5), .int (nI (z 6)), .int (nI (z 7)), .int (nI (z 8)), .int (nI (z 9)), .int (nI (z 10)), .int nb, .int (nI (z 12)), .int wa, .long wd, .ref (q 15), .ref (q 16), .ref (q 17), .ref (q 18), .int (nI (z 19)), .int (nI (z 20)), .ref (q 21), .long (lN ev), .ref (q 23), .ref (q 24), .int (nI (z 25)), .ref (q 26), .int al, .long wl, .int (nI (z 29))]] (wrI [ob k 8 [.int (nI th), .int (nI n), .int (-1), .ref g, va_rf rr, .ref (q 5), .int (nI (z 6)), .int (nI (z 7)), .int (nI (z 8)), .int (nI (z 9)), .int (nI (z 10)), .int nb, .int (nI (z 12)), .int wa, .long wd, .ref (q 15), .ref (q 16), .ref (q 17), .ref (q 18), .int (nI (z 19)), .int (nI (z 20)), .ref (q 21), .long (lN ev), .ref (q 23), .ref (q 24), .int (nI (z 25)), .ref (q 26), .int al, .long wl, .int (nI (z 29))]] (nI 0)) := by
  refine Ct.intro (by decide +kernel) (Nat.le_of_ble_eq_true rfl) (lv := [(0, .ref k), (1, .int (nI n))]) rfl ?_
  intro Z X Y
  refine v_aload_n X dX8_denied_0 rfl 0 rfl ?_
  refine v_iload_n X dX8_denied_1 rfl 1 rfl ?_
  refine v_wrI1 X (rn_V X k_X8_refused ml_X8_49 dX8_denied_2 (c_X8_refused l E k th tr wh g rr q z nb wa wd ev al wl n ) rfl 0 rfl rfl (by decide) (by decide) (by omega) (by omega) (Nat.le_of_ble_eq_true rfl)) [0] rfl rfl (ws' := [ob k 8 [.int (nI th), .int (nI n), .int (-1), .ref g, va_rf rr, .ref (q 5), .int (nI (z 6)), .int (nI (z 7)), .int (nI (z 8)), .int (nI (z 9)), .int (nI (z 10)), .int nb, .int (nI (z 12)), .int wa, .long wd, .ref (q 15), .ref (q 16), .ref (q 17), .ref (q 18), .int (nI (z 19)), .int (nI (z 20)), .ref (q 21), .long (lN ev), .ref (q 23), .ref (q 24), .int (nI (z 25)), .ref (q 26), .int al, .long wl, .int (nI (z 29))]]) rfl rfl ?_
  refine v_pop X dX8_denied_5 rfl ?_
  refine v_iconst X dX8_denied_6 (v := nI 0) (by decide) ?_
  exact v_zret X Y dX8_denied_7 (by decide) (wrI_of rfl rfl) (by omega) (by omega)
set_option maxRecDepth 100000 in
set_option maxHeartbeats 4000000 in
theorem c_X8_granted (l : Launch) (E : Et) (k : Nat) (th : Nat) (tr : Nat) (wh : Int32) (g : Nat) (rr : Option Nat) (q : Nat → Nat) (z : Nat → Nat) (nb : Int32) (wa : Int32) (wd : Int64) (ev : Nat) (al : Int32) (wl : Int64)  : Ct l E yX8_granted cX8_granted 1 (some .boolean) 1 0 0 [.ref k] [ob k 8 [.int (nI th), .int (nI tr), .int wh, .ref g, va_rf rr, .ref (q 5), .int (nI (z 6)), .int (nI (z 7)), .int (nI (z 8)), .int (nI (z 9)), .int (nI (z 10)), .int nb, .int (nI (z 12)), .int wa, .long wd, .ref (q 15), .ref (q 16), .ref (q 17), .ref (q 18), .int (nI (z 19)), .int (nI (z 20)), .ref (q 21), .long (lN ev), .ref (q 23), .ref (q 24), .int (nI (z 25)), .ref (q 26), .int al, .long wl, .int (nI (z 29))]] (wrI [ob k 8 [.int (nI th), .int (nI 0), .int (-1), .ref g, va_rf rr, .ref (q 5), .int (nI (z 6)), .int (nI (z 7)), .int (nI (z 8)), .int (nI (z 9)), .int (nI (z 10)), .int nb, .int (nI (z 12)), .int wa, .long wd, .ref (q 15), .ref (q 16), .ref (q 17), .ref (q 18), .int (nI (z 19)), .int (nI (z 20)), .ref (q 21), .long (lN ev), .ref (q 23), .ref (q 24), .int (nI (z 25)), .ref (q 26), .int al, .long wl, .int (nI (z 29))]] (nI 1)) := by
  refine Ct.intro (by decide +kernel) (Nat.le_of_ble_eq_true rfl) (lv := [(0, .ref k)]) rfl ?_
  intro Z X Y
  refine v_aload_n X dX8_granted_0 rfl 0 rfl ?_
  refine v_iconst X dX8_granted_1 (v := nI 0) (by decide) ?_
  refine v_wrI1 X (rn_V X k_X8_good ml_X8_53 dX8_granted_2 (c_X8_good l E k th tr wh g rr q z nb wa wd ev al wl (nI 0) ) rfl 0 rfl rfl (by decide) (by decide) (by omega) (by omega) (Nat.le_of_ble_eq_true rfl)) [0] rfl rfl (ws' := [ob k 8 [.int (nI th), .int (nI 0), .int (-1), .ref g, va_rf rr, .ref (q 5), .int (nI (z 6)), .int (nI (z 7)), .int (nI (z 8)), .int (nI (z 9)), .int (nI (z 10)), .int nb, .int (nI (z 12)), .int wa, .long wd, .ref (q 15), .ref (q 16), .ref (q 17), .ref (q 18), .int (nI (z 19)), .int (nI (z 20)), .ref (q 21), .long (lN ev), .ref (q 23), .ref (q 24), .int (nI (z 25)), .ref (q 26), .int al, .long wl, .int (nI (z 29))]]) rfl rfl ?_
  refine v_pop X dX8_granted_5 rfl ?_
  refine v_iconst X dX8_granted_6 (v := nI 1) (by decide) ?_
  exact v_zret X Y dX8_granted_7 (by decide) (wrI_of rfl rfl) (by omega) (by omega)
set_option maxRecDepth 100000 in
set_option maxHeartbeats 4000000 in
theorem c_X8_isMan (l : Launch) (E : Et) (k : Nat) (th : Nat) (tr : Nat) (wh : Int32) (g : Nat) (rr : Option Nat) (q : Nat → Nat) (z : Nat → Nat) (nb : Int32) (wa : Int32) (wd : Int64) (ev : Nat) (al : Int32) (wl : Int64) (cy : Nat → Nat) (kp : Nat) (nc : Nat) (cb : Nat → Nat) (m : Int32)  : Ct l E yX8_isMan cX8_isMan 2 (some .boolean) 0 0 0 [.ref k, .int m] [ob k 8 [.int (nI th), .int (nI tr), .int wh, .ref g, va_rf rr, .ref (q 5), .int (nI (z 6)), .int (nI (z 7)), .int (nI (z 8)), .int (nI (z 9)), .int (nI (z 10)), .int nb, .int (nI (z 12)), .int wa, .long wd, .ref (q 15), .ref (q 16), .ref (q 17), .ref (q 18), .int (nI (z 19)), .int (nI (z 20)), .ref (q 21), .long (lN ev), .ref (q 23), .ref (q 24), .int (nI (z 25)), .ref (q 26), .int al, .long wl, .int (nI (z 29))], ob g 7 [.int (nI (cy 0)), .int (nI (cy 1)), .int (nI (cy 2)), .int (nI (cy 3)), .int (nI (cy 4)), .int (nI (cy 5)), .int (nI (cy 6)), .int (nI (cy 7)), .int (nI kp), .int (nI nc), .ref (cb 0), .ref (cb 1), .ref (cb 2), .ref (cb 3), .ref (cb 4), .ref (cb 5), .ref (cb 6), .ref (cb 7), .ref (cb 8), .ref (cb 9), .ref (cb 10), .ref (cb 11)]] (roI [ob k 8 [.int (nI th), .int (nI tr), .int wh, .ref g, va_rf rr, .ref (q 5), .int (nI (z 6)), .int (nI (z 7)), .int (nI (z 8)), .int (nI (z 9)), .int (nI (z 10)), .int nb, .int (nI (z 12)), .int wa, .long wd, .ref (q 15), .ref (q 16), .ref (q 17), .ref (q 18), .int (nI (z 19)), .int (nI (z 20)), .ref (q 21), .long (lN ev), .ref (q 23), .ref (q 24), .int (nI (z 25)), .ref (q 26), .int al, .long wl, .int (nI (z 29))], ob g 7 [.int (nI (cy 0)), .int (nI (cy 1)), .int (nI (cy 2)), .int (nI (cy 3)), .int (nI (cy 4)), .int (nI (cy 5)), .int (nI (cy 6)), .int (nI (cy 7)), .int (nI kp), .int (nI nc), .ref (cb 0), .ref (cb 1), .ref (cb 2), .ref (cb 3), .ref (cb 4), .ref (cb 5), .ref (cb 6), .ref (cb 7), .ref (cb 8), .ref (cb 9), .ref (cb 10), .ref (cb 11)]] (nI (decide (okM m (cy 3))).toNat)) := by
  refine Ct.intro (by decide +kernel) (Nat.le_of_ble_eq_true rfl) (lv := [(0, .ref k), (1, .int m)]) rfl ?_
  intro Z X Y
  refine v_aload_n X dX8_isMan_0 rfl 0 rfl ?_
  refine v_get X kcX8 fl_X8_306 dX8_isMan_1 0 rfl rfl ?_
  refine v_ifnull X dX8_isMan_4 ?_
  refine v_iload_n X dX8_isMan_7 rfl 1 rfl ?_
  refine v_if_lt X dX8_isMan_8 (tgt := 26) (by decide) (fun h8 => ?_) (fun h8 => ?_)
  · refine v_iconst X dX8_isMan_26 (v := nI 0) (by decide) ?_
    exact v_zret X Y dX8_isMan_27 (by decide) (roI_of (bo0 (decide_eq_false (fun q => absurd q.1 (Int32.not_le.mpr h8))))) (by omega) (by omega)
  · refine v_iload_n X dX8_isMan_11 rfl 1 rfl ?_
    refine v_aload_n X dX8_isMan_12 rfl 0 rfl ?_
    refine v_get X kcX8 fl_X8_306 dX8_isMan_13 0 rfl rfl ?_
    refine v_getN X kcX7 fl_X8_180 dX8_isMan_16 1 rfl rfl ?_
    refine v_icmp_ge X dX8_isMan_19 (tgt := 26) (by decide) (fun h19 => ?_) (fun h19 => ?_)
    · refine v_iconst X dX8_isMan_26 (v := nI 0) (by decide) ?_
      exact v_zret X Y dX8_isMan_27 (by decide) (roI_of (bo0 (decide_eq_false (fun q => absurd q.2 (Int32.not_lt.mpr h19))))) (by omega) (by omega)
    · refine v_iconst X dX8_isMan_22 (v := nI 1) (by decide) ?_
      refine v_goto X dX8_isMan_23 (tgt := 27) (by decide) ?_
      exact v_zret X Y dX8_isMan_27 (by decide) (roI_of (bo1 (decide_eq_true ⟨Int32.not_lt.mp h8, Int32.not_le.mp h19⟩))) (by omega) (by omega)
set_option maxRecDepth 100000 in
set_option maxHeartbeats 4000000 in
theorem c_X8_isMan_n (l : Launch) (E : Et) (k : Nat) (th : Nat) (tr : Nat) (wh : Int32) (rr : Option Nat) (q : Nat → Nat) (z : Nat → Nat) (nb : Int32) (wa : Int32) (wd : Int64) (ev : Nat) (al : Int32) (wl : Int64) (m : Int32)  : Ct l E yX8_isMan cX8_isMan 2 (some .boolean) 0 0 0 [.ref k, .int m] [ob k 8 [.int (nI th), .int (nI tr), .int wh, .null, va_rf rr, .ref (q 5), .int (nI (z 6)), .int (nI (z 7)), .int (nI (z 8)), .int (nI (z 9)), .int (nI (z 10)), .int nb, .int (nI (z 12)), .int wa, .long wd, .ref (q 15), .ref (q 16), .ref (q 17), .ref (q 18), .int (nI (z 19)), .int (nI (z 20)), .ref (q 21), .long (lN ev), .ref (q 23), .ref (q 24), .int (nI (z 25)), .ref (q 26), .int al, .long wl, .int (nI (z 29))]] (roI [ob k 8 [.int (nI th), .int (nI tr), .int wh, .null, va_rf rr, .ref (q 5), .int (nI (z 6)), .int (nI (z 7)), .int (nI (z 8)), .int (nI (z 9)), .int (nI (z 10)), .int nb, .int (nI (z 12)), .int wa, .long wd, .ref (q 15), .ref (q 16), .ref (q 17), .ref (q 18), .int (nI (z 19)), .int (nI (z 20)), .ref (q 21), .long (lN ev), .ref (q 23), .ref (q 24), .int (nI (z 25)), .ref (q 26), .int al, .long wl, .int (nI (z 29))]] (nI 0)) := by
  refine Ct.intro (by decide +kernel) (Nat.le_of_ble_eq_true rfl) (lv := [(0, .ref k), (1, .int m)]) rfl ?_
  intro Z X Y
  refine v_aload_n X dX8_isMan_0 rfl 0 rfl ?_
  refine v_get X kcX8 fl_X8_306 dX8_isMan_1 0 rfl rfl ?_
  refine v_ifnullN X dX8_isMan_4 (tgt := 26) (by decide) ?_
  refine v_iconst X dX8_isMan_26 (v := nI 0) (by decide) ?_
  exact v_zret X Y dX8_isMan_27 (by decide) (roI_of rfl) (by omega) (by omega)
set_option maxRecDepth 100000 in
set_option maxHeartbeats 4000000 in
theorem c_X8_isClause (l : Launch) (E : Et) (k : Nat) (th : Nat) (tr : Nat) (wh : Int32) (g : Nat) (rr : Option Nat) (q : Nat → Nat) (z : Nat → Nat) (nb : Int32) (wa : Int32) (wd : Int64) (ev : Nat) (al : Int32) (wl : Int64) (cy : Nat → Nat) (kp : Nat) (nc : Nat) (cb : Nat → Nat) (m : Int32)  : Ct l E yX8_isClause cX8_isClause 2 (some .boolean) 0 0 0 [.ref k, .int m] [ob k 8 [.int (nI th), .int (nI tr), .int wh, .ref g, va_rf rr, .ref (q 5), .int (nI (z 6)), .int (nI (z 7)), .int (nI (z 8)), .int (nI (z 9)), .int (nI (z 10)), .int nb, .int (nI (z 12)), .int wa, .long wd, .ref (q 15), .ref (q 16), .ref (q 17), .ref (q 18), .int (nI (z 19)), .int (nI (z 20)), .ref (q 21), .long (lN ev), .ref (q 23), .ref (q 24), .int (nI (z 25)), .ref (q 26), .int al, .long wl, .int (nI (z 29))], ob g 7 [.int (nI (cy 0)), .int (nI (cy 1)), .int (nI (cy 2)), .int (nI (cy 3)), .int (nI (cy 4)), .int (nI (cy 5)), .int (nI (cy 6)), .int (nI (cy 7)), .int (nI kp), .int (nI nc), .ref (cb 0), .ref (cb 1), .ref (cb 2), .ref (cb 3), .ref (cb 4), .ref (cb 5), .ref (cb 6), .ref (cb 7), .ref (cb 8), .ref (cb 9), .ref (cb 10), .ref (cb 11)]] (roI [ob k 8 [.int (nI th), .int (nI tr), .int wh, .ref g, va_rf rr, .ref (q 5), .int (nI (z 6)), .int (nI (z 7)), .int (nI (z 8)), .int (nI (z 9)), .int (nI (z 10)), .int nb, .int (nI (z 12)), .int wa, .long wd, .ref (q 15), .ref (q 16), .ref (q 17), .ref (q 18), .int (nI (z 19)), .int (nI (z 20)), .ref (q 21), .long (lN ev), .ref (q 23), .ref (q 24), .int (nI (z 25)), .ref (q 26), .int al, .long wl, .int (nI (z 29))], ob g 7 [.int (nI (cy 0)), .int (nI (cy 1)), .int (nI (cy 2)), .int (nI (cy 3)), .int (nI (cy 4)), .int (nI (cy 5)), .int (nI (cy 6)), .int (nI (cy 7)), .int (nI kp), .int (nI nc), .ref (cb 0), .ref (cb 1), .ref (cb 2), .ref (cb 3), .ref (cb 4), .ref (cb 5), .ref (cb 6), .ref (cb 7), .ref (cb 8), .ref (cb 9), .ref (cb 10), .ref (cb 11)]] (nI (decide (okM m (cy 5))).toNat)) := by
  refine Ct.intro (by decide +kernel) (Nat.le_of_ble_eq_true rfl) (lv := [(0, .ref k), (1, .int m)]) rfl ?_
  intro Z X Y
  refine v_aload_n X dX8_isClause_0 rfl 0 rfl ?_
  refine v_get X kcX8 fl_X8_306 dX8_isClause_1 0 rfl rfl ?_
  refine v_ifnull X dX8_isClause_4 ?_
  refine v_iload_n X dX8_isClause_7 rfl 1 rfl ?_
  refine v_if_lt X dX8_isClause_8 (tgt := 26) (by decide) (fun h8 => ?_) (fun h8 => ?_)
  · refine v_iconst X dX8_isClause_26 (v := nI 0) (by decide) ?_
    exact v_zret X Y dX8_isClause_27 (by decide) (roI_of (bo0 (decide_eq_false (fun q => absurd q.1 (Int32.not_le.mpr h8))))) (by omega) (by omega)
  · refine v_iload_n X dX8_isClause_11 rfl 1 rfl ?_
    refine v_aload_n X dX8_isClause_12 rfl 0 rfl ?_
    refine v_get X kcX8 fl_X8_306 dX8_isClause_13 0 rfl rfl ?_
    refine v_getN X kcX7 fl_X8_240 dX8_isClause_16 1 rfl rfl ?_
    refine v_icmp_ge X dX8_isClause_19 (tgt := 26) (by decide) (fun h19 => ?_) (fun h19 => ?_)
    · refine v_iconst X dX8_isClause_26 (v := nI 0) (by decide) ?_
      exact v_zret X Y dX8_isClause_27 (by decide) (roI_of (bo0 (decide_eq_false (fun q => absurd q.2 (Int32.not_lt.mpr h19))))) (by omega) (by omega)
    · refine v_iconst X dX8_isClause_22 (v := nI 1) (by decide) ?_
      refine v_goto X dX8_isClause_23 (tgt := 27) (by decide) ?_
      exact v_zret X Y dX8_isClause_27 (by decide) (roI_of (bo1 (decide_eq_true ⟨Int32.not_lt.mp h8, Int32.not_le.mp h19⟩))) (by omega) (by omega)
set_option maxRecDepth 100000 in
set_option maxHeartbeats 4000000 in
theorem c_X8_isClause_n (l : Launch) (E : Et) (k : Nat) (th : Nat) (tr : Nat) (wh : Int32) (rr : Option Nat) (q : Nat → Nat) (z : Nat → Nat) (nb : Int32) (wa : Int32) (wd : Int64) (ev : Nat) (al : Int32) (wl : Int64) (m : Int32)  : Ct l E yX8_isClause cX8_isClause 2 (some .boolean) 0 0 0 [.ref k, .int m] [ob k 8 [.int (nI th), .int (nI tr), .int wh, .null, va_rf rr, .ref (q 5), .int (nI (z 6)), .int (nI (z 7)), .int (nI (z 8)), .int (nI (z 9)), .int (nI (z 10)), .int nb, .int (nI (z 12)), .int wa, .long wd, .ref (q 15), .ref (q 16), .ref (q 17), .ref (q 18), .int (nI (z 19)), .int (nI (z 20)), .ref (q 21), .long (lN ev), .ref (q 23), .ref (q 24), .int (nI (z 25)), .ref (q 26), .int al, .long wl, .int (nI (z 29))]] (roI [ob k 8 [.int (nI th), .int (nI tr), .int wh, .null, va_rf rr, .ref (q 5), .int (nI (z 6)), .int (nI (z 7)), .int (nI (z 8)), .int (nI (z 9)), .int (nI (z 10)), .int nb, .int (nI (z 12)), .int wa, .long wd, .ref (q 15), .ref (q 16), .ref (q 17), .ref (q 18), .int (nI (z 19)), .int (nI (z 20)), .ref (q 21), .long (lN ev), .ref (q 23), .ref (q 24), .int (nI (z 25)), .ref (q 26), .int al, .long wl, .int (nI (z 29))]] (nI 0)) := by
  refine Ct.intro (by decide +kernel) (Nat.le_of_ble_eq_true rfl) (lv := [(0, .ref k), (1, .int m)]) rfl ?_
  intro Z X Y
  refine v_aload_n X dX8_isClause_0 rfl 0 rfl ?_
  refine v_get X kcX8 fl_X8_306 dX8_isClause_1 0 rfl rfl ?_
  refine v_ifnullN X dX8_isClause_4 (tgt := 26) (by decide) ?_
  refine v_iconst X dX8_isClause_26 (v := nI 0) (by decide) ?_
  exact v_zret X Y dX8_isClause_27 (by decide) (roI_of rfl) (by omega) (by omega)
set_option maxRecDepth 100000 in
set_option maxHeartbeats 4000000 in
theorem c_X8_isSet (l : Launch) (E : Et) (k : Nat) (th : Nat) (tr : Nat) (wh : Int32) (g : Nat) (rr : Option Nat) (q : Nat → Nat) (z : Nat → Nat) (nb : Int32) (wa : Int32) (wd : Int64) (ev : Nat) (al : Int32) (wl : Int64) (cy : Nat → Nat) (kp : Nat) (nc : Nat) (cb : Nat → Nat) (m : Int32) (hd : cy 4 ≤ 6) : Ct l E yX8_isSet cX8_isSet 2 (some .boolean) 0 0 0 [.ref k, .int m] [ob k 8 [.int (nI th), .int (nI tr), .int wh, .ref g, va_rf rr, .ref (q 5), .int (nI (z 6)), .int (nI (z 7)), .int (nI (z 8)), .int (nI (z 9)), .int (nI (z 10)), .int nb, .int (nI (z 12)), .int wa, .long wd, .ref (q 15), .ref (q 16), .ref (q 17), .ref (q 18), .int (nI (z 19)), .int (nI (z 20)), .ref (q 21), .long (lN ev), .ref (q 23), .ref (q 24), .int (nI (z 25)), .ref (q 26), .int al, .long wl, .int (nI (z 29))], ob g 7 [.int (nI (cy 0)), .int (nI (cy 1)), .int (nI (cy 2)), .int (nI (cy 3)), .int (nI (cy 4)), .int (nI (cy 5)), .int (nI (cy 6)), .int (nI (cy 7)), .int (nI kp), .int (nI nc), .ref (cb 0), .ref (cb 1), .ref (cb 2), .ref (cb 3), .ref (cb 4), .ref (cb 5), .ref (cb 6), .ref (cb 7), .ref (cb 8), .ref (cb 9), .ref (cb 10), .ref (cb 11)]] (roI [ob k 8 [.int (nI th), .int (nI tr), .int wh, .ref g, va_rf rr, .ref (q 5), .int (nI (z 6)), .int (nI (z 7)), .int (nI (z 8)), .int (nI (z 9)), .int (nI (z 10)), .int nb, .int (nI (z 12)), .int wa, .long wd, .ref (q 15), .ref (q 16), .ref (q 17), .ref (q 18), .int (nI (z 19)), .int (nI (z 20)), .ref (q 21), .long (lN ev), .ref (q 23), .ref (q 24), .int (nI (z 25)), .ref (q 26), .int al, .long wl, .int (nI (z 29))], ob g 7 [.int (nI (cy 0)), .int (nI (cy 1)), .int (nI (cy 2)), .int (nI (cy 3)), .int (nI (cy 4)), .int (nI (cy 5)), .int (nI (cy 6)), .int (nI (cy 7)), .int (nI kp), .int (nI nc), .ref (cb 0), .ref (cb 1), .ref (cb 2), .ref (cb 3), .ref (cb 4), .ref (cb 5), .ref (cb 6), .ref (cb 7), .ref (cb 8), .ref (cb 9), .ref (cb 10), .ref (cb 11)]] (nI (decide (okM m (2 ^ cy 4))).toNat)) := by
  refine Ct.intro (by decide +kernel) (Nat.le_of_ble_eq_true rfl) (lv := [(0, .ref k), (1, .int m)]) rfl ?_
  intro Z X Y
  refine v_iload_n X dX8_isSet_0 rfl 1 rfl ?_
  refine v_if_lt X dX8_isSet_1 (tgt := 21) (by decide) (fun h1 => ?_) (fun h1 => ?_)
  · refine v_iconst X dX8_isSet_21 (v := nI 0) (by decide) ?_
    exact v_zret X Y dX8_isSet_22 (by decide) (roI_of (bo0 (decide_eq_false (fun q => absurd q.1 (Int32.not_le.mpr h1))))) (by omega) (by omega)
  · refine v_iload_n X dX8_isSet_4 rfl 1 rfl ?_
    refine v_iconst X dX8_isSet_5 (v := nI 1) (by decide) ?_
    refine v_aload_n X dX8_isSet_6 rfl 0 rfl ?_
    refine v_get X kcX8 fl_X8_306 dX8_isSet_7 0 rfl rfl ?_
    refine v_getN X kcX7 fl_X8_183 dX8_isSet_10 1 rfl rfl ?_
    refine v_ishl X dX8_isSet_13 ?_
    refine v_eqi (x' := nI (2 ^ (cy 4))) (nI_shl1 (by omega)) ?_
    refine v_icmp_ge X dX8_isSet_14 (tgt := 21) (by decide) (fun h14 => ?_) (fun h14 => ?_)
    · refine v_iconst X dX8_isSet_21 (v := nI 0) (by decide) ?_
      exact v_zret X Y dX8_isSet_22 (by decide) (roI_of (bo0 (decide_eq_false (fun q => absurd q.2 (Int32.not_lt.mpr h14))))) (by omega) (by omega)
    · refine v_iconst X dX8_isSet_17 (v := nI 1) (by decide) ?_
      refine v_goto X dX8_isSet_18 (tgt := 22) (by decide) ?_
      exact v_zret X Y dX8_isSet_22 (by decide) (roI_of (bo1 (decide_eq_true ⟨Int32.not_lt.mp h1, Int32.not_le.mp h14⟩))) (by omega) (by omega)
