set_option maxRecDepth 100000 in
set_option maxHeartbeats 4000000 in
theorem c_X8_knownOne_o (l : Launch) (E : Et) (k : Nat) (th : Nat) (tr : Nat) (wh : Int32) (g : Option Nat) (q : Nat → Nat) (z : Nat → Nat) (nb : Int32) (wa : Int32) (wd : Int64) (ev : Nat) (al : Int32) (wl : Int64) (gr7 : Nat) (cy : Nat → Nat) (bl : Int32) (kp : Nat) (nc : Nat) (cb : Nat → Nat) (na : Nat → Int64) (ns : Nat → Nat) (nu : Nat → Nat) (s8 : Nat) (hnc : nc ≤ 18) (hns : ∀ i, i < nc → ns i ≤ 4) (hs8 : s8 ≤ 2) : Ct l E yX8_knownOne cX8_knownOne 3 (some .int) 7 0 0 [.ref k, .int (nI s8)] [ob k 8 [.int (nI th), .int (nI tr), .int wh, va_rf g, .ref gr7, .ref (q 5), .int (nI (z 6)), .int (nI (z 7)), .int (nI (z 8)), .int (nI 5), .int (nI (z 10)), .int nb, .int (nI (z 12)), .int wa, .long wd, .ref (q 15), .ref (q 16), .ref (q 17), .ref (q 18), .int (nI (z 19)), .int (nI (z 20)), .ref (q 21), .long (lN ev), .ref (q 23), .ref (q 24), .int (nI (z 25)), .ref (q 26), .int al, .long wl, .int (nI (z 29))], ob gr7 7 [.int bl, .int (nI (cy 1)), .int (nI (cy 2)), .int (nI (cy 3)), .int (nI (cy 4)), .int (nI (cy 5)), .int (nI (cy 6)), .int (nI (cy 7)), .int (nI kp), .int (nI nc), .ref (cb 0), .ref (cb 1), .ref (cb 2), .ref (cb 3), .ref (cb 4), .ref (cb 5), .ref (cb 6), .ref (cb 7), .ref (cb 8), .ref (cb 9), .ref (cb 10), .ref (cb 11)], aL E (cb 9) 18 na, aN E (cb 10) 18 ns, aN E (cb 11) 18 nu] (roI [ob k 8 [.int (nI th), .int (nI tr), .int wh, va_rf g, .ref gr7, .ref (q 5), .int (nI (z 6)), .int (nI (z 7)), .int (nI (z 8)), .int (nI 5), .int (nI (z 10)), .int nb, .int (nI (z 12)), .int wa, .long wd, .ref (q 15), .ref (q 16), .ref (q 17), .ref (q 18), .int (nI (z 19)), .int (nI (z 20)), .ref (q 21), .long (lN ev), .ref (q 23), .ref (q 24), .int (nI (z 25)), .ref (q 26), .int al, .long wl, .int (nI (z 29))], ob gr7 7 [.int bl, .int (nI (cy 1)), .int (nI (cy 2)), .int (nI (cy 3)), .int (nI (cy 4)), .int (nI (cy 5)), .int (nI (cy 6)), .int (nI (cy 7)), .int (nI kp), .int (nI nc), .ref (cb 0), .ref (cb 1), .ref (cb 2), .ref (cb 3), .ref (cb 4), .ref (cb 5), .ref (cb 6), .ref (cb 7), .ref (cb 8), .ref (cb 9), .ref (cb 10), .ref (cb 11)], aL E (cb 9) 18 na, aN E (cb 10) 18 ns, aN E (cb 11) 18 nu] (nI 0)) := by
  refine Ct.intro (by decide +kernel) (Nat.le_of_ble_eq_true rfl) (lv := [(0, .ref k), (1, .int (nI s8))]) rfl ?_
  intro Z X Y
  refine v_aload_n X dX8_knownOne_0 rfl 0 rfl ?_
  refine v_roI1 X (rn_V X k_X8_isName ml_X8_151 dX8_knownOne_1 (c_X8_isName_o l E k th tr wh g (some gr7) q z nb wa wd ev al wl ) rfl 0 rfl rfl (by decide) (by decide) (by omega) (by omega) (Nat.le_of_ble_eq_true rfl)) [0] rfl rfl ?_
  refine v_ifN_ne X dX8_knownOne_4 (tgt := 12) (by decide) (by decide) (fun h4 => ?_) (fun h4 => ?_)
  · exfalso; omega
  · refine v_aload_n X dX8_knownOne_7 rfl 0 rfl ?_
    refine v_iconst X dX8_knownOne_8 (v := nI 1) (by decide) ?_
    refine v_roV1 X (rn_V X k_X8_flaw ml_X8_118 dX8_knownOne_9 (c_X8_flaw_o l E k th tr wh g (some gr7) q z nb wa wd ev al wl 1 ) rfl 0 rfl rfl (by decide) (by decide) (by omega) (by omega) (Nat.le_of_ble_eq_true rfl)) [0] rfl rfl ?_
    refine v_aload_n X dX8_knownOne_12 rfl 0 rfl ?_
    refine v_get X kcX8 fl_X8_142 dX8_knownOne_13 0 rfl rfl ?_
    refine v_aload_n X dX8_knownOne_16 rfl 0 rfl ?_
    refine v_get X kcX8 fl_X8_91 dX8_knownOne_17 0 rfl rfl ?_
    refine v_roI1 X (rn_V X k_X7_find ml_X8_155 dX8_knownOne_20 (c_X7_find l E gr7 cy bl kp nc cb na wd (by first | assumption | omega)) rfl 0 rfl rfl (by decide) (by decide) (by omega) (by omega) (Nat.le_of_ble_eq_true rfl)) [1, 2] rfl rfl ?_
    refine v_istore_n X dX8_knownOne_23 rfl (by decide) (lv' := [(2, .int (optJ (fst_ (fun i => decide (na i = wd)) nc 0))), (0, .ref k), (1, .int (nI s8))]) rfl ?_
    rcases hF : fst_ (fun i => decide (na i = wd)) nc 0 with _ | qx
    · refine V.cast (lv' := [(2, .int (-1)), (0, .ref k), (1, .int (nI s8))]) rfl rfl rfl ?_
      refine v_iload_n X dX8_knownOne_24 rfl 0 rfl ?_
      refine v_iconst X dX8_knownOne_25 (v := (-1)) (by decide) ?_
      refine v_icmp_eq X dX8_knownOne_26 (tgt := 42) (by decide) (fun h26 => ?_) (fun h26 => ?_)
      · refine v_aload_n X dX8_knownOne_42 rfl 1 rfl ?_
        refine v_iconst X dX8_knownOne_43 (v := nI 2) (by decide) ?_
        refine v_roV1 X (rn_V X k_X8_flaw ml_X8_118 dX8_knownOne_44 (c_X8_flaw_o l E k th tr wh g (some gr7) q z nb wa wd ev al wl 2 ) rfl 0 rfl rfl (by decide) (by decide) (by omega) (by omega) (Nat.le_of_ble_eq_true rfl)) [0] rfl rfl ?_
        refine v_aload_n X dX8_knownOne_47 rfl 1 rfl ?_
        refine v_get X kcX8 fl_X8_75 dX8_knownOne_48 0 rfl rfl ?_
        refine v_iconst X dX8_knownOne_51 (v := nI 5) (by decide) ?_
        refine v_icmpN_ne X dX8_knownOne_52 (tgt := 59) (by decide) (by decide) (by decide) (fun h52 => ?_) (fun h52 => ?_)
        · exfalso; omega
        · refine v_iconst X dX8_knownOne_55 (v := nI 0) (by decide) ?_
          refine v_goto X dX8_knownOne_56 (tgt := 68) (by decide) ?_
          exact v_iret X Y dX8_knownOne_68 (roI_of rfl) (by omega) (by omega)
      · exact absurd rfl h26
    · have hqn : qx < nc := by have := (fst_lt _ _ _ hF).1; omega
      have hnq := hns qx hqn
      refine V.cast (lv' := [(2, .int (nI qx)), (0, .ref k), (1, .int (nI s8))]) rfl rfl rfl ?_
      refine v_iload_n X dX8_knownOne_24 rfl 0 rfl ?_
      refine v_iconst X dX8_knownOne_25 (v := (-1)) (by decide) ?_
      refine v_icmp_eq X dX8_knownOne_26 (tgt := 42) (by decide) (fun h26 => ?_) (fun h26 => ?_)
      · exact (nm1 h26 (by omega)).elim
      · refine v_aload_n X dX8_knownOne_29 rfl 1 rfl ?_
        refine v_get X kcX8 fl_X8_142 dX8_knownOne_30 0 rfl rfl ?_
        refine v_getN X kcX7 fl_X8_165 dX8_knownOne_33 1 rfl rfl ?_
        refine v_iload_n X dX8_knownOne_36 rfl 0 rfl ?_
        refine v_iald X dX8_knownOne_37 3 rfl (by omega) (by decide) ?_
        refine v_iload_n X dX8_knownOne_38 rfl 2 rfl ?_
        refine v_icmpN_eq X dX8_knownOne_39 (tgt := 47) (by decide) (by omega) (by omega) (fun h39 => ?_) (fun h39 => ?_)
        · refine v_aload_n X dX8_knownOne_47 rfl 1 rfl ?_
          refine v_get X kcX8 fl_X8_75 dX8_knownOne_48 0 rfl rfl ?_
          refine v_iconst X dX8_knownOne_51 (v := nI 5) (by decide) ?_
          refine v_icmpN_ne X dX8_knownOne_52 (tgt := 59) (by decide) (by decide) (by decide) (fun h52 => ?_) (fun h52 => ?_)
          · exfalso; omega
          · refine v_iconst X dX8_knownOne_55 (v := nI 0) (by decide) ?_
            refine v_goto X dX8_knownOne_56 (tgt := 68) (by decide) ?_
            exact v_iret X Y dX8_knownOne_68 (roI_of rfl) (by omega) (by omega)
        · refine v_aload_n X dX8_knownOne_42 rfl 1 rfl ?_
          refine v_iconst X dX8_knownOne_43 (v := nI 2) (by decide) ?_
          refine v_roV1 X (rn_V X k_X8_flaw ml_X8_118 dX8_knownOne_44 (c_X8_flaw_o l E k th tr wh g (some gr7) q z nb wa wd ev al wl 2 ) rfl 0 rfl rfl (by decide) (by decide) (by omega) (by omega) (Nat.le_of_ble_eq_true rfl)) [0] rfl rfl ?_
          refine v_aload_n X dX8_knownOne_47 rfl 1 rfl ?_
          refine v_get X kcX8 fl_X8_75 dX8_knownOne_48 0 rfl rfl ?_
          refine v_iconst X dX8_knownOne_51 (v := nI 5) (by decide) ?_
          refine v_icmpN_ne X dX8_knownOne_52 (tgt := 59) (by decide) (by decide) (by decide) (fun h52 => ?_) (fun h52 => ?_)
          · exfalso; omega
          · refine v_iconst X dX8_knownOne_55 (v := nI 0) (by decide) ?_
            refine v_goto X dX8_knownOne_56 (tgt := 68) (by decide) ?_
            exact v_iret X Y dX8_knownOne_68 (roI_of rfl) (by omega) (by omega)
set_option maxRecDepth 100000 in
set_option maxHeartbeats 4000000 in
theorem c_X8_knownOneL (l : Launch) (E : Et) (k : Nat) (th : Nat) (tr : Nat) (wh : Int32) (g : Option Nat) (q : Nat → Nat) (z : Nat → Nat) (nb : Int32) (wa : Int32) (wd : Int64) (ev : Nat) (al : Int32) (wl : Int64) (sz : Nat) (sp : Nat) (so : Nat) (pl : Nat) (tp : Nat → Int32) (tk : Tk) (kwd : Nat → Int64) (gr7 : Nat) (cy : Nat → Nat) (bl : Int32) (kp : Nat) (nc : Nat) (cb : Nat → Nat) (na : Nat → Int64) (ns : Nat → Nat) (nu : Nat → Nat) (nm : Rnm) (s8 : Nat) (hkw : ∀ s, s < 6 → kwd s = lN (pkS 27 s)) (hT8 : T8 tk so pl sp wd nb) (hso : so ≤ 4) (hNR : NR nm nc na ns nu) (hnc : nc ≤ 18) (hns : ∀ i, i < nc → ns i ≤ 4) (hs8 : s8 ≤ 2) : Ct l E yX8_knownOne cX8_knownOne 3 (some .int) 7 0 0 [.ref k, .int (nI s8)] [ob k 8 [.int (nI th), .int (nI tr), .int wh, va_rf g, .ref gr7, .ref (q 5), .int (nI (z 6)), .int (nI sz), .int (nI sp), .int (nI so), .int (nI pl), .int nb, .int (nI (z 12)), .int wa, .long wd, .ref (q 15), .ref (q 16), .ref (q 17), .ref (q 18), .int (nI (z 19)), .int (nI (z 20)), .ref (q 21), .long (lN ev), .ref (q 23), .ref (q 24), .int (nI (z 25)), .ref (q 26), .int al, .long wl, .int (nI (z 29))], ob gr7 7 [.int bl, .int (nI (cy 1)), .int (nI (cy 2)), .int (nI (cy 3)), .int (nI (cy 4)), .int (nI (cy 5)), .int (nI (cy 6)), .int (nI (cy 7)), .int (nI kp), .int (nI nc), .ref (cb 0), .ref (cb 1), .ref (cb 2), .ref (cb 3), .ref (cb 4), .ref (cb 5), .ref (cb 6), .ref (cb 7), .ref (cb 8), .ref (cb 9), .ref (cb 10), .ref (cb 11)], aL E (cb 9) 18 na, aN E (cb 10) 18 ns, aN E (cb 11) 18 nu] ((fun r w => (∃ (x : Nat), (knS kwd (s8 + 1) nm tk = .inr x) ∧ w = [ob k 8 [.int (nI th), .int (nI tr), .int wh, va_rf g, .ref gr7, .ref (q 5), .int (nI (z 6)), .int (nI sz), .int (nI sp), .int (nI so), .int (nI pl), .int nb, .int (nI (z 12)), .int wa, .long wd, .ref (q 15), .ref (q 16), .ref (q 17), .ref (q 18), .int (nI (z 19)), .int (nI (z 20)), .ref (q 21), .long (lN ev), .ref (q 23), .ref (q 24), .int (nI (z 25)), .ref (q 26), .int al, .long wl, .int (nI (z 29))], ob gr7 7 [.int bl, .int (nI (cy 1)), .int (nI (cy 2)), .int (nI (cy 3)), .int (nI (cy 4)), .int (nI (cy 5)), .int (nI (cy 6)), .int (nI (cy 7)), .int (nI kp), .int (nI nc), .ref (cb 0), .ref (cb 1), .ref (cb 2), .ref (cb 3), .ref (cb 4), .ref (cb 5), .ref (cb 6), .ref (cb 7), .ref (cb 8), .ref (cb 9), .ref (cb 10), .ref (cb 11)], aL E (cb 9) 18 na, aN E (cb 10) 18 ns, aN E (cb 11) 18 nu] ∧ r = some (.int (nI x))) ∨ (∃ (f : Nat) (p : Nat), (knS kwd (s8 + 1) nm tk = .inl (f, p)) ∧ w = [ob k 8 [.int (nI th), .int (nI tr), .int wh, va_rf g, .ref gr7, .ref (q 5), .int (nI (z 6)), .int (nI sz), .int (nI sp), .int (nI 5), .int (nI pl), .int nb, .int (nI f), .int (nI p), .long wd, .ref (q 15), .ref (q 16), .ref (q 17), .ref (q 18), .int (nI (z 19)), .int (nI (z 20)), .ref (q 21), .long (lN ev), .ref (q 23), .ref (q 24), .int (nI (z 25)), .ref (q 26), .int al, .long wl, .int (nI (z 29))], ob gr7 7 [.int bl, .int (nI (cy 1)), .int (nI (cy 2)), .int (nI (cy 3)), .int (nI (cy 4)), .int (nI (cy 5)), .int (nI (cy 6)), .int (nI (cy 7)), .int (nI kp), .int (nI nc), .ref (cb 0), .ref (cb 1), .ref (cb 2), .ref (cb 3), .ref (cb 4), .ref (cb 5), .ref (cb 6), .ref (cb 7), .ref (cb 8), .ref (cb 9), .ref (cb 10), .ref (cb 11)], aL E (cb 9) 18 na, aN E (cb 10) 18 ns, aN E (cb 11) 18 nu] ∧ r = some (.int (nI 0))))) := by
  refine Ct.intro (by decide +kernel) (Nat.le_of_ble_eq_true rfl) (lv := [(0, .ref k), (1, .int (nI s8))]) rfl ?_
  intro Z X Y
  refine v_aload_n X dX8_knownOne_0 rfl 0 rfl ?_
  refine v_roI1 X (rn_V X k_X8_isName ml_X8_151 dX8_knownOne_1 (c_X8_isNameL l E k th tr wh g (some gr7) q z nb wa wd ev al wl sz sp so pl tp tk kwd (by first | assumption | omega) (by first | assumption | omega) (by first | assumption | omega)) rfl 0 rfl rfl (by decide) (by decide) (by omega) (by omega) (Nat.le_of_ble_eq_true rfl)) [0] rfl rfl ?_
  refine v_ifB_ne X dX8_knownOne_4 (tgt := 12) (by decide) (fun h4 => ?_) (fun h4 => ?_)
  · refine v_aload_n X dX8_knownOne_12 rfl 0 rfl ?_
    refine v_get X kcX8 fl_X8_142 dX8_knownOne_13 0 rfl rfl ?_
    refine v_aload_n X dX8_knownOne_16 rfl 0 rfl ?_
    refine v_get X kcX8 fl_X8_91 dX8_knownOne_17 0 rfl rfl ?_
    refine v_roI1 X (rn_V X k_X7_find ml_X8_155 dX8_knownOne_20 (c_X7_find l E gr7 cy bl kp nc cb na wd (by first | assumption | omega)) rfl 0 rfl rfl (by decide) (by decide) (by omega) (by omega) (Nat.le_of_ble_eq_true rfl)) [1, 2] rfl rfl ?_
    refine v_istore_n X dX8_knownOne_23 rfl (by decide) (lv' := [(2, .int (optJ (fst_ (fun i => decide (na i = wd)) nc 0))), (0, .ref k), (1, .int (nI s8))]) rfl ?_
    rcases hF : fst_ (fun i => decide (na i = wd)) nc 0 with _ | qx
    · refine V.cast (lv' := [(2, .int (-1)), (0, .ref k), (1, .int (nI s8))]) rfl rfl rfl ?_
      refine v_iload_n X dX8_knownOne_24 rfl 0 rfl ?_
      refine v_iconst X dX8_knownOne_25 (v := (-1)) (by decide) ?_
      refine v_icmp_eq X dX8_knownOne_26 (tgt := 42) (by decide) (fun h26 => ?_) (fun h26 => ?_)
      · refine v_aload_n X dX8_knownOne_42 rfl 1 rfl ?_
        refine v_iconst X dX8_knownOne_43 (v := nI 2) (by decide) ?_
        refine v_wrV1 X (rn_V X k_X8_flaw ml_X8_118 dX8_knownOne_44 (c_X8_flaw l E k th tr wh g (some gr7) q (upN (upN z 7 sz) 8 sp) nb wa wd ev al wl so pl 2 (by omega)) rfl 0 rfl rfl (by decide) (by decide) (by omega) (by omega) (Nat.le_of_ble_eq_true rfl)) [0] rfl rfl (ws' := [ob k 8 [.int (nI th), .int (nI tr), .int wh, va_rf g, .ref gr7, .ref (q 5), .int (nI (z 6)), .int (nI sz), .int (nI sp), .int (nI 5), .int (nI pl), .int nb, .int (nI 2), .int (nI pl), .long wd, .ref (q 15), .ref (q 16), .ref (q 17), .ref (q 18), .int (nI (z 19)), .int (nI (z 20)), .ref (q 21), .long (lN ev), .ref (q 23), .ref (q 24), .int (nI (z 25)), .ref (q 26), .int al, .long wl, .int (nI (z 29))], ob gr7 7 [.int bl, .int (nI (cy 1)), .int (nI (cy 2)), .int (nI (cy 3)), .int (nI (cy 4)), .int (nI (cy 5)), .int (nI (cy 6)), .int (nI (cy 7)), .int (nI kp), .int (nI nc), .ref (cb 0), .ref (cb 1), .ref (cb 2), .ref (cb 3), .ref (cb 4), .ref (cb 5), .ref (cb 6), .ref (cb 7), .ref (cb 8), .ref (cb 9), .ref (cb 10), .ref (cb 11)], aL E (cb 9) 18 na, aN E (cb 10) 18 ns, aN E (cb 11) 18 nu]) rfl rfl ?_
        refine v_aload_n X dX8_knownOne_47 rfl 1 rfl ?_
        refine v_get X kcX8 fl_X8_75 dX8_knownOne_48 0 rfl rfl ?_
        refine v_iconst X dX8_knownOne_51 (v := nI 5) (by decide) ?_
        refine v_icmpN_ne X dX8_knownOne_52 (tgt := 59) (by decide) (by decide) (by decide) (fun h52 => ?_) (fun h52 => ?_)
        · exfalso; omega
        · refine v_iconst X dX8_knownOne_55 (v := nI 0) (by decide) ?_
          refine v_goto X dX8_knownOne_56 (tgt := 68) (by decide) ?_
          exact v_iret X Y dX8_knownOne_68 (Or.inr ⟨2, pl, (by rw [show pl = tk.2.1 from hT8.1]; exact kn_2 (of_decide_eq_true h4) ((nr_f hT8 hNR (of_decide_eq_true h4).1).symm.trans hF)), rfl, rfl⟩) (by omega) (by omega)
      · exact absurd rfl h26
    · have hqn : qx < nc := by have := (fst_lt _ _ _ hF).1; omega
      have hnq := hns qx hqn
      refine V.cast (lv' := [(2, .int (nI qx)), (0, .ref k), (1, .int (nI s8))]) rfl rfl rfl ?_
      refine v_iload_n X dX8_knownOne_24 rfl 0 rfl ?_
      refine v_iconst X dX8_knownOne_25 (v := (-1)) (by decide) ?_
      refine v_icmp_eq X dX8_knownOne_26 (tgt := 42) (by decide) (fun h26 => ?_) (fun h26 => ?_)
      · exact (nm1 h26 (by omega)).elim
      · refine v_aload_n X dX8_knownOne_29 rfl 1 rfl ?_
        refine v_get X kcX8 fl_X8_142 dX8_knownOne_30 0 rfl rfl ?_
        refine v_getN X kcX7 fl_X8_165 dX8_knownOne_33 1 rfl rfl ?_
        refine v_iload_n X dX8_knownOne_36 rfl 0 rfl ?_
        refine v_iald X dX8_knownOne_37 3 rfl (by omega) (by decide) ?_
        refine v_iload_n X dX8_knownOne_38 rfl 2 rfl ?_
        refine v_icmpN_eq X dX8_knownOne_39 (tgt := 47) (by decide) (by omega) (by omega) (fun h39 => ?_) (fun h39 => ?_)
        · refine v_aload_n X dX8_knownOne_47 rfl 1 rfl ?_
          refine v_get X kcX8 fl_X8_75 dX8_knownOne_48 0 rfl rfl ?_
          refine v_iconst X dX8_knownOne_51 (v := nI 5) (by decide) ?_
          refine v_icmpN_ne X dX8_knownOne_52 (tgt := 59) (by decide) (by omega) (by decide) (fun h52 => ?_) (fun h52 => ?_)
          · refine v_aload_n X dX8_knownOne_59 rfl 1 rfl ?_
            refine v_get X kcX8 fl_X8_142 dX8_knownOne_60 0 rfl rfl ?_
            refine v_getN X kcX7 fl_X8_168 dX8_knownOne_63 1 rfl rfl ?_
            refine v_iload_n X dX8_knownOne_66 rfl 0 rfl ?_
            refine v_iald X dX8_knownOne_67 4 rfl (by omega) (by decide) ?_
            exact v_iret X Y dX8_knownOne_68 (Or.inl ⟨(nu qx), (by rw [(hNR.2 qx (by rw [← hNR.1]; exact hqn)).2.1]; exact kn_0 (of_decide_eq_true h4) ((nr_f hT8 hNR (of_decide_eq_true h4).1).symm.trans hF) (by have := (hNR.2 qx (by rw [← hNR.1]; exact hqn)).1; omega)), rfl, rfl⟩) (by omega) (by omega)
          · exfalso; omega
        · refine v_aload_n X dX8_knownOne_42 rfl 1 rfl ?_
          refine v_iconst X dX8_knownOne_43 (v := nI 2) (by decide) ?_
          refine v_wrV1 X (rn_V X k_X8_flaw ml_X8_118 dX8_knownOne_44 (c_X8_flaw l E k th tr wh g (some gr7) q (upN (upN z 7 sz) 8 sp) nb wa wd ev al wl so pl 2 (by omega)) rfl 0 rfl rfl (by decide) (by decide) (by omega) (by omega) (Nat.le_of_ble_eq_true rfl)) [0] rfl rfl (ws' := [ob k 8 [.int (nI th), .int (nI tr), .int wh, va_rf g, .ref gr7, .ref (q 5), .int (nI (z 6)), .int (nI sz), .int (nI sp), .int (nI 5), .int (nI pl), .int nb, .int (nI 2), .int (nI pl), .long wd, .ref (q 15), .ref (q 16), .ref (q 17), .ref (q 18), .int (nI (z 19)), .int (nI (z 20)), .ref (q 21), .long (lN ev), .ref (q 23), .ref (q 24), .int (nI (z 25)), .ref (q 26), .int al, .long wl, .int (nI (z 29))], ob gr7 7 [.int bl, .int (nI (cy 1)), .int (nI (cy 2)), .int (nI (cy 3)), .int (nI (cy 4)), .int (nI (cy 5)), .int (nI (cy 6)), .int (nI (cy 7)), .int (nI kp), .int (nI nc), .ref (cb 0), .ref (cb 1), .ref (cb 2), .ref (cb 3), .ref (cb 4), .ref (cb 5), .ref (cb 6), .ref (cb 7), .ref (cb 8), .ref (cb 9), .ref (cb 10), .ref (cb 11)], aL E (cb 9) 18 na, aN E (cb 10) 18 ns, aN E (cb 11) 18 nu]) rfl rfl ?_
          refine v_aload_n X dX8_knownOne_47 rfl 1 rfl ?_
          refine v_get X kcX8 fl_X8_75 dX8_knownOne_48 0 rfl rfl ?_
          refine v_iconst X dX8_knownOne_51 (v := nI 5) (by decide) ?_
          refine v_icmpN_ne X dX8_knownOne_52 (tgt := 59) (by decide) (by decide) (by decide) (fun h52 => ?_) (fun h52 => ?_)
          · exfalso; omega
          · refine v_iconst X dX8_knownOne_55 (v := nI 0) (by decide) ?_
            refine v_goto X dX8_knownOne_56 (tgt := 68) (by decide) ?_
            exact v_iret X Y dX8_knownOne_68 (Or.inr ⟨2, pl, (by rw [show pl = tk.2.1 from hT8.1]; exact kn_3 (of_decide_eq_true h4) ((nr_f hT8 hNR (of_decide_eq_true h4).1).symm.trans hF) (fun z => h39 (by have := (hNR.2 qx (by rw [← hNR.1]; exact hqn)).1; omega))), rfl, rfl⟩) (by omega) (by omega)
  · refine v_aload_n X dX8_knownOne_7 rfl 0 rfl ?_
    refine v_iconst X dX8_knownOne_8 (v := nI 1) (by decide) ?_
    refine v_wrV1 X (rn_V X k_X8_flaw ml_X8_118 dX8_knownOne_9 (c_X8_flaw l E k th tr wh g (some gr7) q (upN (upN z 7 sz) 8 sp) nb wa wd ev al wl so pl 1 (by omega)) rfl 0 rfl rfl (by decide) (by decide) (by omega) (by omega) (Nat.le_of_ble_eq_true rfl)) [0] rfl rfl (ws' := [ob k 8 [.int (nI th), .int (nI tr), .int wh, va_rf g, .ref gr7, .ref (q 5), .int (nI (z 6)), .int (nI sz), .int (nI sp), .int (nI 5), .int (nI pl), .int nb, .int (nI 1), .int (nI pl), .long wd, .ref (q 15), .ref (q 16), .ref (q 17), .ref (q 18), .int (nI (z 19)), .int (nI (z 20)), .ref (q 21), .long (lN ev), .ref (q 23), .ref (q 24), .int (nI (z 25)), .ref (q 26), .int al, .long wl, .int (nI (z 29))], ob gr7 7 [.int bl, .int (nI (cy 1)), .int (nI (cy 2)), .int (nI (cy 3)), .int (nI (cy 4)), .int (nI (cy 5)), .int (nI (cy 6)), .int (nI (cy 7)), .int (nI kp), .int (nI nc), .ref (cb 0), .ref (cb 1), .ref (cb 2), .ref (cb 3), .ref (cb 4), .ref (cb 5), .ref (cb 6), .ref (cb 7), .ref (cb 8), .ref (cb 9), .ref (cb 10), .ref (cb 11)], aL E (cb 9) 18 na, aN E (cb 10) 18 ns, aN E (cb 11) 18 nu]) rfl rfl ?_
    refine v_aload_n X dX8_knownOne_12 rfl 0 rfl ?_
    refine v_get X kcX8 fl_X8_142 dX8_knownOne_13 0 rfl rfl ?_
    refine v_aload_n X dX8_knownOne_16 rfl 0 rfl ?_
    refine v_get X kcX8 fl_X8_91 dX8_knownOne_17 0 rfl rfl ?_
    refine v_roI1 X (rn_V X k_X7_find ml_X8_155 dX8_knownOne_20 (c_X7_find l E gr7 cy bl kp nc cb na wd (by first | assumption | omega)) rfl 0 rfl rfl (by decide) (by decide) (by omega) (by omega) (Nat.le_of_ble_eq_true rfl)) [1, 2] rfl rfl ?_
    refine v_istore_n X dX8_knownOne_23 rfl (by decide) (lv' := [(2, .int (optJ (fst_ (fun i => decide (na i = wd)) nc 0))), (0, .ref k), (1, .int (nI s8))]) rfl ?_
    rcases hF : fst_ (fun i => decide (na i = wd)) nc 0 with _ | qx
    · refine V.cast (lv' := [(2, .int (-1)), (0, .ref k), (1, .int (nI s8))]) rfl rfl rfl ?_
      refine v_iload_n X dX8_knownOne_24 rfl 0 rfl ?_
      refine v_iconst X dX8_knownOne_25 (v := (-1)) (by decide) ?_
      refine v_icmp_eq X dX8_knownOne_26 (tgt := 42) (by decide) (fun h26 => ?_) (fun h26 => ?_)
      · refine v_aload_n X dX8_knownOne_42 rfl 1 rfl ?_
        refine v_iconst X dX8_knownOne_43 (v := nI 2) (by decide) ?_
        refine v_roV1 X (rn_V X k_X8_flaw ml_X8_118 dX8_knownOne_44 (c_X8_flaw_o l E k th tr wh g (some gr7) q (upN (upN (upN (upN z 7 sz) 8 sp) 10 pl) 12 1) nb (nI pl) wd ev al wl 2 ) rfl 0 rfl rfl (by decide) (by decide) (by omega) (by omega) (Nat.le_of_ble_eq_true rfl)) [0] rfl rfl ?_
        refine v_aload_n X dX8_knownOne_47 rfl 1 rfl ?_
        refine v_get X kcX8 fl_X8_75 dX8_knownOne_48 0 rfl rfl ?_
        refine v_iconst X dX8_knownOne_51 (v := nI 5) (by decide) ?_
        refine v_icmpN_ne X dX8_knownOne_52 (tgt := 59) (by decide) (by decide) (by decide) (fun h52 => ?_) (fun h52 => ?_)
        · exfalso; omega
        · refine v_iconst X dX8_knownOne_55 (v := nI 0) (by decide) ?_
          refine v_goto X dX8_knownOne_56 (tgt := 68) (by decide) ?_
          exact v_iret X Y dX8_knownOne_68 (Or.inr ⟨1, pl, (by rw [show pl = tk.2.1 from hT8.1]; exact kn_1 (of_decide_eq_false h4)), rfl, rfl⟩) (by omega) (by omega)
      · exact absurd rfl h26
    · have hqn : qx < nc := by have := (fst_lt _ _ _ hF).1; omega
      have hnq := hns qx hqn
      refine V.cast (lv' := [(2, .int (nI qx)), (0, .ref k), (1, .int (nI s8))]) rfl rfl rfl ?_
      refine v_iload_n X dX8_knownOne_24 rfl 0 rfl ?_
      refine v_iconst X dX8_knownOne_25 (v := (-1)) (by decide) ?_
      refine v_icmp_eq X dX8_knownOne_26 (tgt := 42) (by decide) (fun h26 => ?_) (fun h26 => ?_)
      · exact (nm1 h26 (by omega)).elim
      · refine v_aload_n X dX8_knownOne_29 rfl 1 rfl ?_
        refine v_get X kcX8 fl_X8_142 dX8_knownOne_30 0 rfl rfl ?_
        refine v_getN X kcX7 fl_X8_165 dX8_knownOne_33 1 rfl rfl ?_
        refine v_iload_n X dX8_knownOne_36 rfl 0 rfl ?_
        refine v_iald X dX8_knownOne_37 3 rfl (by omega) (by decide) ?_
        refine v_iload_n X dX8_knownOne_38 rfl 2 rfl ?_
        refine v_icmpN_eq X dX8_knownOne_39 (tgt := 47) (by decide) (by omega) (by omega) (fun h39 => ?_) (fun h39 => ?_)
        · refine v_aload_n X dX8_knownOne_47 rfl 1 rfl ?_
          refine v_get X kcX8 fl_X8_75 dX8_knownOne_48 0 rfl rfl ?_
          refine v_iconst X dX8_knownOne_51 (v := nI 5) (by decide) ?_
          refine v_icmpN_ne X dX8_knownOne_52 (tgt := 59) (by decide) (by decide) (by decide) (fun h52 => ?_) (fun h52 => ?_)
          · exfalso; omega
          · refine v_iconst X dX8_knownOne_55 (v := nI 0) (by decide) ?_
            refine v_goto X dX8_knownOne_56 (tgt := 68) (by decide) ?_
            exact v_iret X Y dX8_knownOne_68 (Or.inr ⟨1, pl, (by rw [show pl = tk.2.1 from hT8.1]; exact kn_1 (of_decide_eq_false h4)), rfl, rfl⟩) (by omega) (by omega)
        · refine v_aload_n X dX8_knownOne_42 rfl 1 rfl ?_
          refine v_iconst X dX8_knownOne_43 (v := nI 2) (by decide) ?_
          refine v_roV1 X (rn_V X k_X8_flaw ml_X8_118 dX8_knownOne_44 (c_X8_flaw_o l E k th tr wh g (some gr7) q (upN (upN (upN (upN z 7 sz) 8 sp) 10 pl) 12 1) nb (nI pl) wd ev al wl 2 ) rfl 0 rfl rfl (by decide) (by decide) (by omega) (by omega) (Nat.le_of_ble_eq_true rfl)) [0] rfl rfl ?_
          refine v_aload_n X dX8_knownOne_47 rfl 1 rfl ?_
          refine v_get X kcX8 fl_X8_75 dX8_knownOne_48 0 rfl rfl ?_
          refine v_iconst X dX8_knownOne_51 (v := nI 5) (by decide) ?_
          refine v_icmpN_ne X dX8_knownOne_52 (tgt := 59) (by decide) (by decide) (by decide) (fun h52 => ?_) (fun h52 => ?_)
          · exfalso; omega
          · refine v_iconst X dX8_knownOne_55 (v := nI 0) (by decide) ?_
            refine v_goto X dX8_knownOne_56 (tgt := 68) (by decide) ?_
            exact v_iret X Y dX8_knownOne_68 (Or.inr ⟨1, pl, (by rw [show pl = tk.2.1 from hT8.1]; exact kn_1 (of_decide_eq_false h4)), rfl, rfl⟩) (by omega) (by omega)
