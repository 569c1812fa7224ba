set_option maxRecDepth 100000 in
set_option maxHeartbeats 4000000 in
theorem c_X8_binding (l : Launch) (E : Et) (k : Nat) (th : Nat) (tr : Nat) (wh : Int32) (g : Nat) (rr : Option Nat) (q : Nat → Nat) (z : Nat → Nat) (nb : Int32) (wa : Int32) (wd : Int64) (ev : Nat) (al : Int32) (wl : Int64) (cy : Nat → Nat) (kp : Nat) (nc : Nat) (cb : Nat → Nat) (mn : Nat → Int32) (ink : Nat → Nat) (t : Nat) (dd : Nat) (m : Int32) (hcl : cy 5 ≤ 8) (hink : ∀ c, ink c ≤ 40) : Ct l E yX8_binding cX8_binding 4 (some .int) 0 0 0 [.ref k, .int m] [ob k 8 [.int (nI th), .int (nI tr), .int wh, .ref g, va_rf rr, .ref (q 5), .int (nI (z 6)), .int (nI (z 7)), .int (nI (z 8)), .int (nI (z 9)), .int (nI (z 10)), .int nb, .int (nI (z 12)), .int wa, .long wd, .ref (q 15), .ref (q 16), .ref (q 17), .ref (q 18), .int (nI (z 19)), .int (nI (z 20)), .ref (q 21), .long (lN ev), .ref (q 23), .ref (q 24), .int (nI (z 25)), .ref (q 26), .int al, .long wl, .int (nI (z 29))], ob g 7 [.int (nI (cy 0)), .int (nI (cy 1)), .int (nI (cy 2)), .int (nI (cy 3)), .int (nI (cy 4)), .int (nI (cy 5)), .int (nI (cy 6)), .int (nI (cy 7)), .int (nI kp), .int (nI nc), .ref (cb 0), .ref (cb 1), .ref (cb 2), .ref (cb 3), .ref (cb 4), .ref (cb 5), .ref (cb 6), .ref (cb 7), .ref (cb 8), .ref (cb 9), .ref (cb 10), .ref (cb 11)], aI E (q 16) 25 (xF mn ink t dd)] (roI [ob k 8 [.int (nI th), .int (nI tr), .int wh, .ref g, va_rf rr, .ref (q 5), .int (nI (z 6)), .int (nI (z 7)), .int (nI (z 8)), .int (nI (z 9)), .int (nI (z 10)), .int nb, .int (nI (z 12)), .int wa, .long wd, .ref (q 15), .ref (q 16), .ref (q 17), .ref (q 18), .int (nI (z 19)), .int (nI (z 20)), .ref (q 21), .long (lN ev), .ref (q 23), .ref (q 24), .int (nI (z 25)), .ref (q 26), .int al, .long wl, .int (nI (z 29))], ob g 7 [.int (nI (cy 0)), .int (nI (cy 1)), .int (nI (cy 2)), .int (nI (cy 3)), .int (nI (cy 4)), .int (nI (cy 5)), .int (nI (cy 6)), .int (nI (cy 7)), .int (nI kp), .int (nI nc), .ref (cb 0), .ref (cb 1), .ref (cb 2), .ref (cb 3), .ref (cb 4), .ref (cb 5), .ref (cb 6), .ref (cb 7), .ref (cb 8), .ref (cb 9), .ref (cb 10), .ref (cb 11)], aI E (q 16) 25 (xF mn ink t dd)] (nI (bbits (fun c => decide (mn c = m ∧ 0 < ink c)) (cy 5)))) := by
  refine Ct.intro (by decide +kernel) (Nat.le_of_ble_eq_true rfl) (lv := [(0, .ref k), (1, .int m)]) rfl ?_
  intro Z X Y
  refine v_iconst X dX8_binding_0 (v := nI 0) (by decide) ?_
  refine v_istore_n X dX8_binding_1 rfl (by decide) (lv' := [(2, .int (nI 0)), (0, .ref k), (1, .int m)]) rfl ?_
  refine v_iconst X dX8_binding_2 (v := nI 0) (by decide) ?_
  refine v_istore_n X dX8_binding_3 rfl (by decide) (lv' := [(3, .int (nI 0)), (2, .int (nI 0)), (0, .ref k), (1, .int m)]) rfl ?_
  have L4 : ∀ (j4 : Nat) (vc : Nat) (vb : Nat), (vc ≤ cy 5 ∧ vb = bbits (fun c => decide (mn c = m ∧ 0 < ink c)) vc) → cy 5 - vc < j4 → V E Z 4 [(0, .ref k), (1, .int m), (2, .int (nI vb)), (3, .int (nI vc))] [] [ob k 8 [.int (nI th), .int (nI tr), .int wh, .ref g, va_rf rr, .ref (q 5), .int (nI (z 6)), .int (nI (z 7)), .int (nI (z 8)), .int (nI (z 9)), .int (nI (z 10)), .int nb, .int (nI (z 12)), .int wa, .long wd, .ref (q 15), .ref (q 16), .ref (q 17), .ref (q 18), .int (nI (z 19)), .int (nI (z 20)), .ref (q 21), .long (lN ev), .ref (q 23), .ref (q 24), .int (nI (z 25)), .ref (q 26), .int al, .long wl, .int (nI (z 29))], ob g 7 [.int (nI (cy 0)), .int (nI (cy 1)), .int (nI (cy 2)), .int (nI (cy 3)), .int (nI (cy 4)), .int (nI (cy 5)), .int (nI (cy 6)), .int (nI (cy 7)), .int (nI kp), .int (nI nc), .ref (cb 0), .ref (cb 1), .ref (cb 2), .ref (cb 3), .ref (cb 4), .ref (cb 5), .ref (cb 6), .ref (cb 7), .ref (cb 8), .ref (cb 9), .ref (cb 10), .ref (cb 11)], aI E (q 16) 25 (xF mn ink t dd)] 0 0 := by
    intro j4
    induction j4 with
    | zero => intro vc vb hI hM; exact absurd hM (Nat.not_lt_zero _)
    | succ j4 ih4 =>
      intro vc vb hI4 hM4
      obtain ⟨hc, hb⟩ := id hI4
      refine v_iload_n X dX8_binding_4 rfl 3 rfl ?_
      refine v_aload_n X dX8_binding_5 rfl 0 rfl ?_
      refine v_get X kcX8 fl_X8_306 dX8_binding_6 0 rfl rfl ?_
      refine v_getN X kcX7 fl_X8_240 dX8_binding_9 1 rfl rfl ?_
      refine v_icmpN_ge X dX8_binding_12 (tgt := 53) (by decide) (by omega) (by omega) (fun h12 => ?_) (fun h12 => ?_)
      · refine v_iload_n X dX8_binding_53 rfl 2 rfl ?_
        exact v_iret X Y dX8_binding_54 (roI_of (by rw [hb, show vc = cy 5 by omega])) (by omega) (by omega)
      · refine v_iload_n X dX8_binding_15 rfl 2 rfl ?_
        refine v_aload_n X dX8_binding_16 rfl 0 rfl ?_
        refine v_get X kcX8 fl_X8_21 dX8_binding_17 0 rfl rfl ?_
        refine v_iload_n X dX8_binding_20 rfl 3 rfl ?_
        refine v_iald X dX8_binding_21 2 rfl (by omega) (by decide) ?_
        refine v_eqi (x' := mn vc) (xF_m (by omega)) ?_
        refine v_iload_n X dX8_binding_22 rfl 1 rfl ?_
        refine v_icmp_ne X dX8_binding_23 (tgt := 44) (by decide) (fun h23 => ?_) (fun h23 => ?_)
        · refine v_iconst X dX8_binding_44 (v := nI 0) (by decide) ?_
          refine v_ior X dX8_binding_45 ?_
          refine v_eqi (x' := nI (vb ||| 0)) (fa_or _ _) ?_
          refine v_istore_n X dX8_binding_46 rfl (by decide) (lv' := [(2, .int (nI (vb ||| 0))), (0, .ref k), (1, .int m), (3, .int (nI vc))]) rfl ?_
          refine v_iinc X dX8_binding_47 3 rfl (v := nI (vc + 1)) (nI_inc vc) (by decide) (lv' := [(3, .int (nI (vc + 1))), (2, .int (nI (vb ||| 0))), (0, .ref k), (1, .int m)]) rfl ?_
          refine v_goto X dX8_binding_50 (tgt := 4) (by decide) ?_
          refine V.lvs [2, 3, 1, 0] rfl ?_
          exact ih4 (vc + 1) (vb ||| 0) (⟨by omega, by rw [hb]; exact (Nat.or_zero _).trans (bbits_no (decide_eq_false (fun q => h23 q.1))).symm⟩) (by omega)
        · refine v_aload_n X dX8_binding_26 rfl 0 rfl ?_
          refine v_get X kcX8 fl_X8_21 dX8_binding_27 0 rfl rfl ?_
          refine v_bipush X dX8_binding_30 (v := nI 8) (by decide) ?_
          refine v_iload_n X dX8_binding_32 rfl 3 rfl ?_
          refine v_iadd X dX8_binding_33 ?_
          refine v_eqi (x' := nI (8 + vc)) (nI_add _ _) ?_
          refine v_iald X dX8_binding_34 2 rfl (by omega) (by decide) ?_
          refine v_eqi (x' := nI (ink vc)) (xF_i (by omega)) ?_
          refine v_ifN_le X dX8_binding_35 (tgt := 44) (by decide) (Nat.lt_of_le_of_lt (hink _) (by decide)) (fun h35 => ?_) (fun h35 => ?_)
          · refine v_iconst X dX8_binding_44 (v := nI 0) (by decide) ?_
            refine v_ior X dX8_binding_45 ?_
            refine v_eqi (x' := nI (vb ||| 0)) (fa_or _ _) ?_
            refine v_istore_n X dX8_binding_46 rfl (by decide) (lv' := [(2, .int (nI (vb ||| 0))), (0, .ref k), (1, .int m), (3, .int (nI vc))]) rfl ?_
            refine v_iinc X dX8_binding_47 3 rfl (v := nI (vc + 1)) (nI_inc vc) (by decide) (lv' := [(3, .int (nI (vc + 1))), (2, .int (nI (vb ||| 0))), (0, .ref k), (1, .int m)]) rfl ?_
            refine v_goto X dX8_binding_50 (tgt := 4) (by decide) ?_
            refine V.lvs [2, 3, 1, 0] rfl ?_
            exact ih4 (vc + 1) (vb ||| 0) (⟨by omega, by rw [hb]; exact (Nat.or_zero _).trans (bbits_no (decide_eq_false (fun q => absurd q.2 (by omega)))).symm⟩) (by omega)
          · refine v_iconst X dX8_binding_38 (v := nI 1) (by decide) ?_
            refine v_iload_n X dX8_binding_39 rfl 3 rfl ?_
            refine v_ishl X dX8_binding_40 ?_
            refine v_eqi (x' := nI (2 ^ vc)) (nI_shl1 (by omega)) ?_
            refine v_goto X dX8_binding_41 (tgt := 45) (by decide) ?_
            refine v_ior X dX8_binding_45 ?_
            refine v_eqi (x' := nI (vb ||| (2 ^ vc))) (fa_or _ _) ?_
            refine v_istore_n X dX8_binding_46 rfl (by decide) (lv' := [(2, .int (nI (vb ||| (2 ^ vc)))), (0, .ref k), (1, .int m), (3, .int (nI vc))]) rfl ?_
            refine v_iinc X dX8_binding_47 3 rfl (v := nI (vc + 1)) (nI_inc vc) (by decide) (lv' := [(3, .int (nI (vc + 1))), (2, .int (nI (vb ||| (2 ^ vc)))), (0, .ref k), (1, .int m)]) rfl ?_
            refine v_goto X dX8_binding_50 (tgt := 4) (by decide) ?_
            refine V.lvs [2, 3, 1, 0] rfl ?_
            exact ih4 (vc + 1) (vb ||| (2 ^ vc)) (⟨by omega, by rw [hb]; exact (bbits_yes (decide_eq_true ⟨h23, by omega⟩)).symm⟩) (by omega)
  refine V.lvs [2, 3, 1, 0] rfl ?_
  exact L4 _ 0 0 (⟨by omega, rfl⟩) (Nat.lt_succ_self _)
