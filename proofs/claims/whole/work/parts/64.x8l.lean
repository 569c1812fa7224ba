set_option maxRecDepth 100000 in
set_option maxHeartbeats 4000000 in
theorem c_X8_remembers (l : Launch) (E : Et) (k : Nat) (th : Nat) (tr : Nat) (wh : Int32) (g : Nat) (rr : Option Nat) (q : Nat → Nat) (z : Nat → Nat) (nb : Int32) (wa : Int32) (wd : Int64) (ev : Nat) (al : Int32) (wl : Int64) (mn : Nat → Int32) (ink : Nat → Nat) (t : Nat) (dd : Nat) (ac : Nat) (pp : Nat → Pv) (hac : ac ≤ 16) : Ct l E yX8_remembers cX8_remembers 2 none 0 0 0 [.ref k] [ob k 8 [.int (nI th), .int (nI tr), .int wh, .ref g, va_rf rr, .ref (q 5), .int (nI (z 6)), .int (nI (z 7)), .int (nI (z 8)), .int (nI (z 9)), .int (nI (z 10)), .int nb, .int (nI (z 12)), .int wa, .long wd, .ref (q 15), .ref (q 16), .ref (q 17), .ref (q 18), .int (nI ac), .int (nI (z 20)), .ref (q 21), .long (lN ev), .ref (q 23), .ref (q 24), .int (nI (z 25)), .ref (q 26), .int al, .long wl, .int (nI (z 29))], aI E (q 15) 25 (xF mn ink t dd), aI E (q 17) 400 (rwF pp)] (wrV [ob k 8 [.int (nI th), .int (nI tr), .int wh, .ref g, va_rf rr, .ref (q 5), .int (nI (z 6)), .int (nI (z 7)), .int (nI (z 8)), .int (nI (z 9)), .int (nI (z 10)), .int nb, .int (nI (z 12)), .int wa, .long wd, .ref (q 15), .ref (q 16), .ref (q 17), .ref (q 18), .int (nI (kaA ac)), .int (nI (z 20)), .ref (q 21), .long (lN ev), .ref (q 23), .ref (q 24), .int (nI (z 25)), .ref (q 26), .int al, .long wl, .int (nI (z 29))], aI E (q 15) 25 (xF mn ink t dd), aI E (q 17) 400 (rwF (rmP pp ac (ink, mn, t, dd)))]) := by
  refine Ct.intro (by decide +kernel) (Nat.le_of_ble_eq_true rfl) (lv := [(0, .ref k)]) rfl ?_
  intro Z X Y
  refine v_aload_n X dX8_remembers_0 rfl 0 rfl ?_
  refine v_get X kcX8 fl_X8_311 dX8_remembers_1 0 rfl rfl ?_
  refine v_bipush X dX8_remembers_4 (v := nI 16) (by decide) ?_
  refine v_icmpN_ne X dX8_remembers_6 (tgt := 49) (by decide) (by omega) (by decide) (fun h6 => ?_) (fun h6 => ?_)
  · refine V.arI 2 rfl (g' := wrF (rwF pp) (ac) (xF mn ink t dd) 0) (fun j _ => by rw [wrF_0]) (ws' := [ob k 8 [.int (nI th), .int (nI tr), .int wh, .ref g, va_rf rr, .ref (q 5), .int (nI (z 6)), .int (nI (z 7)), .int (nI (z 8)), .int (nI (z 9)), .int (nI (z 10)), .int nb, .int (nI (z 12)), .int wa, .long wd, .ref (q 15), .ref (q 16), .ref (q 17), .ref (q 18), .int (nI ac), .int (nI (z 20)), .ref (q 21), .long (lN ev), .ref (q 23), .ref (q 24), .int (nI (z 25)), .ref (q 26), .int al, .long wl, .int (nI (z 29))], aI E (q 15) 25 (xF mn ink t dd), aI E (q 17) 400 (wrF (rwF pp) (ac) (xF mn ink t dd) 0)]) rfl ?_
    refine v_iconst X dX8_remembers_49 (v := nI 0) (by decide) ?_
    refine v_istore_n X dX8_remembers_50 rfl (by decide) (lv' := [(1, .int (nI 0)), (0, .ref k)]) rfl ?_
    have L51 : ∀ (j51 : Nat) (vk : Nat), (vk ≤ 25) → 25 - vk < j51 → V E Z 51 [(0, .ref k), (1, .int (nI vk))] [] [ob k 8 [.int (nI th), .int (nI tr), .int wh, .ref g, va_rf rr, .ref (q 5), .int (nI (z 6)), .int (nI (z 7)), .int (nI (z 8)), .int (nI (z 9)), .int (nI (z 10)), .int nb, .int (nI (z 12)), .int wa, .long wd, .ref (q 15), .ref (q 16), .ref (q 17), .ref (q 18), .int (nI ac), .int (nI (z 20)), .ref (q 21), .long (lN ev), .ref (q 23), .ref (q 24), .int (nI (z 25)), .ref (q 26), .int al, .long wl, .int (nI (z 29))], aI E (q 15) 25 (xF mn ink t dd), aI E (q 17) 400 (wrF (rwF pp) (ac) (xF mn ink t dd) vk)] 0 0 := by
      intro j51
      induction j51 with
      | zero => intro vk hI hM; exact absurd hM (Nat.not_lt_zero _)
      | succ j51 ih51 =>
        intro vk hI51 hM51
        obtain hck := id hI51
        refine v_iload_n X dX8_remembers_51 rfl 1 rfl ?_
        refine v_bipush X dX8_remembers_52 (v := nI 25) (by decide) ?_
        refine v_icmpN_ge X dX8_remembers_54 (tgt := 83) (by decide) (by omega) (by decide) (fun h54 => ?_) (fun h54 => ?_)
        · obtain rfl : vk = 25 := by omega
          refine V.arI 2 rfl (g' := rwF (rmP pp ac (ink, mn, t, dd))) (fun j _ => rm_lo (cur := (ink, mn, t, dd)) (by omega) j) (ws' := [ob k 8 [.int (nI th), .int (nI tr), .int wh, .ref g, va_rf rr, .ref (q 5), .int (nI (z 6)), .int (nI (z 7)), .int (nI (z 8)), .int (nI (z 9)), .int (nI (z 10)), .int nb, .int (nI (z 12)), .int wa, .long wd, .ref (q 15), .ref (q 16), .ref (q 17), .ref (q 18), .int (nI ac), .int (nI (z 20)), .ref (q 21), .long (lN ev), .ref (q 23), .ref (q 24), .int (nI (z 25)), .ref (q 26), .int al, .long wl, .int (nI (z 29))], aI E (q 15) 25 (xF mn ink t dd), aI E (q 17) 400 (rwF (rmP pp ac (ink, mn, t, dd)))]) rfl ?_
          refine v_aload_n X dX8_remembers_83 rfl 0 rfl ?_
          refine v_dup X dX8_remembers_84 rfl ?_
          refine v_get X kcX8 fl_X8_311 dX8_remembers_85 0 rfl rfl ?_
          refine v_iconst X dX8_remembers_88 (v := nI 1) (by decide) ?_
          refine v_iadd X dX8_remembers_89 ?_
          refine v_eqi (x' := nI (ac + 1)) (nI_add _ _) ?_
          refine v_put X kcX8 fl_X8_311 dX8_remembers_90 0 rfl (ws' := [ob k 8 [.int (nI th), .int (nI tr), .int wh, .ref g, va_rf rr, .ref (q 5), .int (nI (z 6)), .int (nI (z 7)), .int (nI (z 8)), .int (nI (z 9)), .int (nI (z 10)), .int nb, .int (nI (z 12)), .int wa, .long wd, .ref (q 15), .ref (q 16), .ref (q 17), .ref (q 18), .int (nI (ac + 1)), .int (nI (z 20)), .ref (q 21), .long (lN ev), .ref (q 23), .ref (q 24), .int (nI (z 25)), .ref (q 26), .int al, .long wl, .int (nI (z 29))], aI E (q 15) 25 (xF mn ink t dd), aI E (q 17) 400 (rwF (rmP pp ac (ink, mn, t, dd)))]) rfl rfl ?_
          exact v_vret X Y dX8_remembers_93 (wrV_of (by rw [show kaA ac = ac + 1 from if_pos (by omega)])) (by omega) (by omega)
        · refine v_aload_n X dX8_remembers_57 rfl 0 rfl ?_
          refine v_get X kcX8 fl_X8_24 dX8_remembers_58 0 rfl rfl ?_
          refine v_bipush X dX8_remembers_61 (v := nI 25) (by decide) ?_
          refine v_aload_n X dX8_remembers_63 rfl 0 rfl ?_
          refine v_get X kcX8 fl_X8_311 dX8_remembers_64 0 rfl rfl ?_
          refine v_imul X dX8_remembers_67 ?_
          refine v_eqi (x' := nI (25 * ac)) (pk_mul _ _) ?_
          refine v_iload_n X dX8_remembers_68 rfl 1 rfl ?_
          refine v_iadd X dX8_remembers_69 ?_
          refine v_eqi (x' := nI ((25 * ac) + vk)) (nI_add _ _) ?_
          refine v_aload_n X dX8_remembers_70 rfl 0 rfl ?_
          refine v_get X kcX8 fl_X8_17 dX8_remembers_71 0 rfl rfl ?_
          refine v_iload_n X dX8_remembers_74 rfl 1 rfl ?_
          refine v_iald X dX8_remembers_75 1 rfl (by omega) (by decide) ?_
          refine v_iast X dX8_remembers_76 2 rfl (by omega) (by decide) (ws' := [ob k 8 [.int (nI th), .int (nI tr), .int wh, .ref g, va_rf rr, .ref (q 5), .int (nI (z 6)), .int (nI (z 7)), .int (nI (z 8)), .int (nI (z 9)), .int (nI (z 10)), .int nb, .int (nI (z 12)), .int wa, .long wd, .ref (q 15), .ref (q 16), .ref (q 17), .ref (q 18), .int (nI ac), .int (nI (z 20)), .ref (q 21), .long (lN ev), .ref (q 23), .ref (q 24), .int (nI (z 25)), .ref (q 26), .int al, .long wl, .int (nI (z 29))], aI E (q 15) 25 (xF mn ink t dd), aI E (q 17) 400 (upd (wrF (rwF pp) (ac) (xF mn ink t dd) vk) ((25 * ac) + vk) ((xF mn ink t dd) vk))]) rfl ?_
          refine V.arI 2 rfl (g' := wrF (rwF pp) (ac) (xF mn ink t dd) (vk + 1)) (fun j _ => by rw [wrF_s]) (ws' := [ob k 8 [.int (nI th), .int (nI tr), .int wh, .ref g, va_rf rr, .ref (q 5), .int (nI (z 6)), .int (nI (z 7)), .int (nI (z 8)), .int (nI (z 9)), .int (nI (z 10)), .int nb, .int (nI (z 12)), .int wa, .long wd, .ref (q 15), .ref (q 16), .ref (q 17), .ref (q 18), .int (nI ac), .int (nI (z 20)), .ref (q 21), .long (lN ev), .ref (q 23), .ref (q 24), .int (nI (z 25)), .ref (q 26), .int al, .long wl, .int (nI (z 29))], aI E (q 15) 25 (xF mn ink t dd), aI E (q 17) 400 (wrF (rwF pp) (ac) (xF mn ink t dd) (vk + 1))]) rfl ?_
          refine v_iinc X dX8_remembers_77 1 rfl (v := nI (vk + 1)) (nI_inc vk) (by decide) (lv' := [(1, .int (nI (vk + 1))), (0, .ref k)]) rfl ?_
          refine v_goto X dX8_remembers_80 (tgt := 51) (by decide) ?_
          refine V.lvs [1, 0] rfl ?_
          exact ih51 (vk + 1) (by omega) (by omega)
    refine V.lvs [1, 0] rfl ?_
    exact L51 _ 0 (by omega) (Nat.lt_succ_self _)
  · refine v_iconst X dX8_remembers_9 (v := nI 0) (by decide) ?_
    refine v_istore_n X dX8_remembers_10 rfl (by decide) (lv' := [(1, .int (nI 0)), (0, .ref k)]) rfl ?_
    have L11 : ∀ (j11 : Nat) (vj : Nat) (vg : Nat → Int32), (vj ≤ 375 ∧ (∀ j, j < vj → vg j = rwF (fun i => pp (i + 1)) j) ∧ (∀ j, vj ≤ j → vg j = rwF pp j)) → 375 - vj < j11 → V E Z 11 [(0, .ref k), (1, .int (nI vj))] [] [ob k 8 [.int (nI th), .int (nI tr), .int wh, .ref g, va_rf rr, .ref (q 5), .int (nI (z 6)), .int (nI (z 7)), .int (nI (z 8)), .int (nI (z 9)), .int (nI (z 10)), .int nb, .int (nI (z 12)), .int wa, .long wd, .ref (q 15), .ref (q 16), .ref (q 17), .ref (q 18), .int (nI ac), .int (nI (z 20)), .ref (q 21), .long (lN ev), .ref (q 23), .ref (q 24), .int (nI (z 25)), .ref (q 26), .int al, .long wl, .int (nI (z 29))], aI E (q 15) 25 (xF mn ink t dd), aI E (q 17) 400 vg] 0 0 := by
      intro j11
      induction j11 with
      | zero => intro vj vg hI hM; exact absurd hM (Nat.not_lt_zero _)
      | succ j11 ih11 =>
        intro vj vg hI11 hM11
        obtain ⟨hcj, hg1, hg2⟩ := id hI11
        refine v_iload_n X dX8_remembers_11 rfl 1 rfl ?_
        refine v_sipush X dX8_remembers_12 (v := nI 375) (by decide) ?_
        refine v_icmpN_ge X dX8_remembers_15 (tgt := 39) (by decide) (by omega) (by decide) (fun h15 => ?_) (fun h15 => ?_)
        · refine V.arI 2 rfl (g' := rwF (shP pp)) (sh_e (fun j hj => hg1 j (by omega)) (fun j hj => hg2 j (by omega))) (ws' := [ob k 8 [.int (nI th), .int (nI tr), .int wh, .ref g, va_rf rr, .ref (q 5), .int (nI (z 6)), .int (nI (z 7)), .int (nI (z 8)), .int (nI (z 9)), .int (nI (z 10)), .int nb, .int (nI (z 12)), .int wa, .long wd, .ref (q 15), .ref (q 16), .ref (q 17), .ref (q 18), .int (nI ac), .int (nI (z 20)), .ref (q 21), .long (lN ev), .ref (q 23), .ref (q 24), .int (nI (z 25)), .ref (q 26), .int al, .long wl, .int (nI (z 29))], aI E (q 15) 25 (xF mn ink t dd), aI E (q 17) 400 (rwF (shP pp))]) rfl ?_
          refine v_aload_n X dX8_remembers_39 rfl 0 rfl ?_
          refine v_dup X dX8_remembers_40 rfl ?_
          refine v_get X kcX8 fl_X8_311 dX8_remembers_41 0 rfl rfl ?_
          refine v_iconst X dX8_remembers_44 (v := nI 1) (by decide) ?_
          refine v_isub X dX8_remembers_45 ?_
          refine v_eqi (x' := nI (ac - 1)) (pk_sub (by omega)) ?_
          refine v_put X kcX8 fl_X8_311 dX8_remembers_46 0 rfl (ws' := [ob k 8 [.int (nI th), .int (nI tr), .int wh, .ref g, va_rf rr, .ref (q 5), .int (nI (z 6)), .int (nI (z 7)), .int (nI (z 8)), .int (nI (z 9)), .int (nI (z 10)), .int nb, .int (nI (z 12)), .int wa, .long wd, .ref (q 15), .ref (q 16), .ref (q 17), .ref (q 18), .int (nI (ac - 1)), .int (nI (z 20)), .ref (q 21), .long (lN ev), .ref (q 23), .ref (q 24), .int (nI (z 25)), .ref (q 26), .int al, .long wl, .int (nI (z 29))], aI E (q 15) 25 (xF mn ink t dd), aI E (q 17) 400 (rwF (shP pp))]) rfl rfl ?_
          refine V.arI 2 rfl (g' := wrF (rwF (shP pp)) (ac - 1) (xF mn ink t dd) 0) (fun j _ => by rw [wrF_0]) (ws' := [ob k 8 [.int (nI th), .int (nI tr), .int wh, .ref g, va_rf rr, .ref (q 5), .int (nI (z 6)), .int (nI (z 7)), .int (nI (z 8)), .int (nI (z 9)), .int (nI (z 10)), .int nb, .int (nI (z 12)), .int wa, .long wd, .ref (q 15), .ref (q 16), .ref (q 17), .ref (q 18), .int (nI (ac - 1)), .int (nI (z 20)), .ref (q 21), .long (lN ev), .ref (q 23), .ref (q 24), .int (nI (z 25)), .ref (q 26), .int al, .long wl, .int (nI (z 29))], aI E (q 15) 25 (xF mn ink t dd), aI E (q 17) 400 (wrF (rwF (shP pp)) (ac - 1) (xF mn ink t dd) 0)]) rfl ?_
          refine v_iconst X dX8_remembers_49 (v := nI 0) (by decide) ?_
          refine v_istore_n X dX8_remembers_50 rfl (by decide) (lv' := [(1, .int (nI 0)), (0, .ref k)]) rfl ?_
          have L51 : ∀ (j51 : Nat) (vk : Nat), (vk ≤ 25) → 25 - vk < j51 → V E Z 51 [(0, .ref k), (1, .int (nI vk))] [] [ob k 8 [.int (nI th), .int (nI tr), .int wh, .ref g, va_rf rr, .ref (q 5), .int (nI (z 6)), .int (nI (z 7)), .int (nI (z 8)), .int (nI (z 9)), .int (nI (z 10)), .int nb, .int (nI (z 12)), .int wa, .long wd, .ref (q 15), .ref (q 16), .ref (q 17), .ref (q 18), .int (nI (ac - 1)), .int (nI (z 20)), .ref (q 21), .long (lN ev), .ref (q 23), .ref (q 24), .int (nI (z 25)), .ref (q 26), .int al, .long wl, .int (nI (z 29))], aI E (q 15) 25 (xF mn ink t dd), aI E (q 17) 400 (wrF (rwF (shP pp)) (ac - 1) (xF mn ink t dd) vk)] 0 0 := by
            intro j51
            induction j51 with
            | zero => intro vk hI hM; exact absurd hM (Nat.not_lt_zero _)
            | succ j51 ih51 =>
              intro vk hI51 hM51
              obtain hck := id hI51
              refine v_iload_n X dX8_remembers_51 rfl 1 rfl ?_
              refine v_bipush X dX8_remembers_52 (v := nI 25) (by decide) ?_
              refine v_icmpN_ge X dX8_remembers_54 (tgt := 83) (by decide) (by omega) (by decide) (fun h54 => ?_) (fun h54 => ?_)
              · obtain rfl : vk = 25 := by omega
                refine V.arI 2 rfl (g' := rwF (rmP pp ac (ink, mn, t, dd))) (fun j hj => rm_hi (cur := (ink, mn, t, dd)) h6 j hj) (ws' := [ob k 8 [.int (nI th), .int (nI tr), .int wh, .ref g, va_rf rr, .ref (q 5), .int (nI (z 6)), .int (nI (z 7)), .int (nI (z 8)), .int (nI (z 9)), .int (nI (z 10)), .int nb, .int (nI (z 12)), .int wa, .long wd, .ref (q 15), .ref (q 16), .ref (q 17), .ref (q 18), .int (nI (ac - 1)), .int (nI (z 20)), .ref (q 21), .long (lN ev), .ref (q 23), .ref (q 24), .int (nI (z 25)), .ref (q 26), .int al, .long wl, .int (nI (z 29))], aI E (q 15) 25 (xF mn ink t dd), aI E (q 17) 400 (rwF (rmP pp ac (ink, mn, t, dd)))]) rfl ?_
                refine v_aload_n X dX8_remembers_83 rfl 0 rfl ?_
                refine v_dup X dX8_remembers_84 rfl ?_
                refine v_get X kcX8 fl_X8_311 dX8_remembers_85 0 rfl rfl ?_
                refine v_iconst X dX8_remembers_88 (v := nI 1) (by decide) ?_
                refine v_iadd X dX8_remembers_89 ?_
                refine v_eqi (x' := nI ((ac - 1) + 1)) (nI_add _ _) ?_
                refine v_put X kcX8 fl_X8_311 dX8_remembers_90 0 rfl (ws' := [ob k 8 [.int (nI th), .int (nI tr), .int wh, .ref g, va_rf rr, .ref (q 5), .int (nI (z 6)), .int (nI (z 7)), .int (nI (z 8)), .int (nI (z 9)), .int (nI (z 10)), .int nb, .int (nI (z 12)), .int wa, .long wd, .ref (q 15), .ref (q 16), .ref (q 17), .ref (q 18), .int (nI ((ac - 1) + 1)), .int (nI (z 20)), .ref (q 21), .long (lN ev), .ref (q 23), .ref (q 24), .int (nI (z 25)), .ref (q 26), .int al, .long wl, .int (nI (z 29))], aI E (q 15) 25 (xF mn ink t dd), aI E (q 17) 400 (rwF (rmP pp ac (ink, mn, t, dd)))]) rfl rfl ?_
                exact v_vret X Y dX8_remembers_93 (wrV_of (by rw [show kaA ac = ac - 1 + 1 by rw [h6]; rfl])) (by omega) (by omega)
              · refine v_aload_n X dX8_remembers_57 rfl 0 rfl ?_
                refine v_get X kcX8 fl_X8_24 dX8_remembers_58 0 rfl rfl ?_
                refine v_bipush X dX8_remembers_61 (v := nI 25) (by decide) ?_
                refine v_aload_n X dX8_remembers_63 rfl 0 rfl ?_
                refine v_get X kcX8 fl_X8_311 dX8_remembers_64 0 rfl rfl ?_
                refine v_imul X dX8_remembers_67 ?_
                refine v_eqi (x' := nI (25 * (ac - 1))) (pk_mul _ _) ?_
                refine v_iload_n X dX8_remembers_68 rfl 1 rfl ?_
                refine v_iadd X dX8_remembers_69 ?_
                refine v_eqi (x' := nI ((25 * (ac - 1)) + vk)) (nI_add _ _) ?_
                refine v_aload_n X dX8_remembers_70 rfl 0 rfl ?_
                refine v_get X kcX8 fl_X8_17 dX8_remembers_71 0 rfl rfl ?_
                refine v_iload_n X dX8_remembers_74 rfl 1 rfl ?_
                refine v_iald X dX8_remembers_75 1 rfl (by omega) (by decide) ?_
                refine v_iast X dX8_remembers_76 2 rfl (by omega) (by decide) (ws' := [ob k 8 [.int (nI th), .int (nI tr), .int wh, .ref g, va_rf rr, .ref (q 5), .int (nI (z 6)), .int (nI (z 7)), .int (nI (z 8)), .int (nI (z 9)), .int (nI (z 10)), .int nb, .int (nI (z 12)), .int wa, .long wd, .ref (q 15), .ref (q 16), .ref (q 17), .ref (q 18), .int (nI (ac - 1)), .int (nI (z 20)), .ref (q 21), .long (lN ev), .ref (q 23), .ref (q 24), .int (nI (z 25)), .ref (q 26), .int al, .long wl, .int (nI (z 29))], aI E (q 15) 25 (xF mn ink t dd), aI E (q 17) 400 (upd (wrF (rwF (shP pp)) (ac - 1) (xF mn ink t dd) vk) ((25 * (ac - 1)) + vk) ((xF mn ink t dd) vk))]) rfl ?_
                refine V.arI 2 rfl (g' := wrF (rwF (shP pp)) (ac - 1) (xF mn ink t dd) (vk + 1)) (fun j _ => by rw [wrF_s]) (ws' := [ob k 8 [.int (nI th), .int (nI tr), .int wh, .ref g, va_rf rr, .ref (q 5), .int (nI (z 6)), .int (nI (z 7)), .int (nI (z 8)), .int (nI (z 9)), .int (nI (z 10)), .int nb, .int (nI (z 12)), .int wa, .long wd, .ref (q 15), .ref (q 16), .ref (q 17), .ref (q 18), .int (nI (ac - 1)), .int (nI (z 20)), .ref (q 21), .long (lN ev), .ref (q 23), .ref (q 24), .int (nI (z 25)), .ref (q 26), .int al, .long wl, .int (nI (z 29))], aI E (q 15) 25 (xF mn ink t dd), aI E (q 17) 400 (wrF (rwF (shP pp)) (ac - 1) (xF mn ink t dd) (vk + 1))]) rfl ?_
                refine v_iinc X dX8_remembers_77 1 rfl (v := nI (vk + 1)) (nI_inc vk) (by decide) (lv' := [(1, .int (nI (vk + 1))), (0, .ref k)]) rfl ?_
                refine v_goto X dX8_remembers_80 (tgt := 51) (by decide) ?_
                refine V.lvs [1, 0] rfl ?_
                exact ih51 (vk + 1) (by omega) (by omega)
          refine V.lvs [1, 0] rfl ?_
          exact L51 _ 0 (by omega) (Nat.lt_succ_self _)
        · refine v_aload_n X dX8_remembers_18 rfl 0 rfl ?_
          refine v_get X kcX8 fl_X8_24 dX8_remembers_19 0 rfl rfl ?_
          refine v_iload_n X dX8_remembers_22 rfl 1 rfl ?_
          refine v_aload_n X dX8_remembers_23 rfl 0 rfl ?_
          refine v_get X kcX8 fl_X8_24 dX8_remembers_24 0 rfl rfl ?_
          refine v_iload_n X dX8_remembers_27 rfl 1 rfl ?_
          refine v_bipush X dX8_remembers_28 (v := nI 25) (by decide) ?_
          refine v_iadd X dX8_remembers_30 ?_
          refine v_eqi (x' := nI (vj + 25)) (nI_add _ _) ?_
          refine v_iald X dX8_remembers_31 2 rfl (by omega) (by decide) ?_
          refine v_iast X dX8_remembers_32 2 rfl (by omega) (by decide) (ws' := [ob k 8 [.int (nI th), .int (nI tr), .int wh, .ref g, va_rf rr, .ref (q 5), .int (nI (z 6)), .int (nI (z 7)), .int (nI (z 8)), .int (nI (z 9)), .int (nI (z 10)), .int nb, .int (nI (z 12)), .int wa, .long wd, .ref (q 15), .ref (q 16), .ref (q 17), .ref (q 18), .int (nI ac), .int (nI (z 20)), .ref (q 21), .long (lN ev), .ref (q 23), .ref (q 24), .int (nI (z 25)), .ref (q 26), .int al, .long wl, .int (nI (z 29))], aI E (q 15) 25 (xF mn ink t dd), aI E (q 17) 400 (upd vg vj (vg (vj + 25)))]) rfl ?_
          refine v_iinc X dX8_remembers_33 1 rfl (v := nI (vj + 1)) (nI_inc vj) (by decide) (lv' := [(1, .int (nI (vj + 1))), (0, .ref k)]) rfl ?_
          refine v_goto X dX8_remembers_36 (tgt := 11) (by decide) ?_
          refine V.lvs [1, 0] rfl ?_
          exact ih11 (vj + 1) (upd vg vj (vg (vj + 25))) (⟨by omega, fillI hg1 (by rw [hg2 _ (by omega), rw_25]), keepI hg2 _⟩) (by omega)
    refine V.lvs [1, 0] rfl ?_
    exact L11 _ 0 (rwF pp) (⟨by omega, fun j hj => absurd hj (Nat.not_lt_zero j), fun _ _ => rfl⟩) (Nat.lt_succ_self _)
set_option maxRecDepth 100000 in
set_option maxHeartbeats 4000000 in
theorem c_X8_remains (l : Launch) (E : Et) (k : Nat) (th : Nat) (tr : Nat) (wh : Int32) (g : Nat) (rr : Option Nat) (q : Nat → Nat) (z : Nat → Nat) (nb : Int32) (wa : Int32) (wd : Int64) (ev : Nat) (al : Int32) (wl : Int64) (xf : Nat → Int32) (vf : Nat → Int32)  : Ct l E yX8_remains cX8_remains 2 none 0 0 0 [.ref k] [ob k 8 [.int (nI th), .int (nI tr), .int wh, .ref g, va_rf rr, .ref (q 5), .int (nI (z 6)), .int (nI (z 7)), .int (nI (z 8)), .int (nI (z 9)), .int (nI (z 10)), .int nb, .int (nI (z 12)), .int wa, .long wd, .ref (q 15), .ref (q 16), .ref (q 17), .ref (q 18), .int (nI (z 19)), .int (nI (z 20)), .ref (q 21), .long (lN ev), .ref (q 23), .ref (q 24), .int (nI (z 25)), .ref (q 26), .int al, .long wl, .int (nI (z 29))], aI E (q 15) 25 vf, aI E (q 16) 25 xf] (wrV [ob k 8 [.int (nI th), .int (nI tr), .int wh, .ref g, va_rf rr, .ref (q 5), .int (nI (z 6)), .int (nI (z 7)), .int (nI (z 8)), .int (nI (z 9)), .int (nI (z 10)), .int nb, .int (nI (z 12)), .int wa, .long wd, .ref (q 15), .ref (q 16), .ref (q 17), .ref (q 18), .int (nI (z 19)), .int (nI (z 20)), .ref (q 21), .long (lN ev), .ref (q 23), .ref (q 24), .int (nI (z 25)), .ref (q 26), .int al, .long wl, .int (nI (z 29))], aI E (q 15) 25 xf, aI E (q 16) 25 xf]) := by
  refine Ct.intro (by decide +kernel) (Nat.le_of_ble_eq_true rfl) (lv := [(0, .ref k)]) rfl ?_
  intro Z X Y
  refine v_iconst X dX8_remains_0 (v := nI 0) (by decide) ?_
  refine v_istore_n X dX8_remains_1 rfl (by decide) (lv' := [(1, .int (nI 0)), (0, .ref k)]) rfl ?_
  have L2 : ∀ (j2 : Nat) (vc : Nat) (vg : Nat → Int32), (vc ≤ 25 ∧ ∀ j, j < vc → vg j = xf j) → 25 - vc < j2 → V E Z 2 [(0, .ref k), (1, .int (nI vc))] [] [ob k 8 [.int (nI th), .int (nI tr), .int wh, .ref g, va_rf rr, .ref (q 5), .int (nI (z 6)), .int (nI (z 7)), .int (nI (z 8)), .int (nI (z 9)), .int (nI (z 10)), .int nb, .int (nI (z 12)), .int wa, .long wd, .ref (q 15), .ref (q 16), .ref (q 17), .ref (q 18), .int (nI (z 19)), .int (nI (z 20)), .ref (q 21), .long (lN ev), .ref (q 23), .ref (q 24), .int (nI (z 25)), .ref (q 26), .int al, .long wl, .int (nI (z 29))], aI E (q 15) 25 vg, aI E (q 16) 25 xf] 0 0 := by
    intro j2
    induction j2 with
    | zero => intro vc vg hI hM; exact absurd hM (Nat.not_lt_zero _)
    | succ j2 ih2 =>
      intro vc vg hI2 hM2
      obtain ⟨hc, hg⟩ := id hI2
      refine v_iload_n X dX8_remains_2 rfl 1 rfl ?_
      refine v_bipush X dX8_remains_3 (v := nI 25) (by decide) ?_
      refine v_icmpN_ge X dX8_remains_5 (tgt := 26) (by decide) (by omega) (by decide) (fun h5 => ?_) (fun h5 => ?_)
      · refine V.arI 1 rfl (g' := xf) (fun j hj => hg j (by omega)) (ws' := [ob k 8 [.int (nI th), .int (nI tr), .int wh, .ref g, va_rf rr, .ref (q 5), .int (nI (z 6)), .int (nI (z 7)), .int (nI (z 8)), .int (nI (z 9)), .int (nI (z 10)), .int nb, .int (nI (z 12)), .int wa, .long wd, .ref (q 15), .ref (q 16), .ref (q 17), .ref (q 18), .int (nI (z 19)), .int (nI (z 20)), .ref (q 21), .long (lN ev), .ref (q 23), .ref (q 24), .int (nI (z 25)), .ref (q 26), .int al, .long wl, .int (nI (z 29))], aI E (q 15) 25 xf, aI E (q 16) 25 xf]) rfl ?_
        exact v_vret X Y dX8_remains_26 (wrV_of rfl) (by omega) (by omega)
      · refine v_aload_n X dX8_remains_8 rfl 0 rfl ?_
        refine v_get X kcX8 fl_X8_17 dX8_remains_9 0 rfl rfl ?_
        refine v_iload_n X dX8_remains_12 rfl 1 rfl ?_
        refine v_aload_n X dX8_remains_13 rfl 0 rfl ?_
        refine v_get X kcX8 fl_X8_21 dX8_remains_14 0 rfl rfl ?_
        refine v_iload_n X dX8_remains_17 rfl 1 rfl ?_
        refine v_iald X dX8_remains_18 2 rfl (by omega) (by decide) ?_
        refine v_iast X dX8_remains_19 1 rfl (by omega) (by decide) (ws' := [ob k 8 [.int (nI th), .int (nI tr), .int wh, .ref g, va_rf rr, .ref (q 5), .int (nI (z 6)), .int (nI (z 7)), .int (nI (z 8)), .int (nI (z 9)), .int (nI (z 10)), .int nb, .int (nI (z 12)), .int wa, .long wd, .ref (q 15), .ref (q 16), .ref (q 17), .ref (q 18), .int (nI (z 19)), .int (nI (z 20)), .ref (q 21), .long (lN ev), .ref (q 23), .ref (q 24), .int (nI (z 25)), .ref (q 26), .int al, .long wl, .int (nI (z 29))], aI E (q 15) 25 (upd vg vc (xf vc)), aI E (q 16) 25 xf]) rfl ?_
        refine v_iinc X dX8_remains_20 1 rfl (v := nI (vc + 1)) (nI_inc vc) (by decide) (lv' := [(1, .int (nI (vc + 1))), (0, .ref k)]) rfl ?_
        refine v_goto X dX8_remains_23 (tgt := 2) (by decide) ?_
        refine V.lvs [1, 0] rfl ?_
        exact ih2 (vc + 1) (upd vg vc (xf vc)) (⟨by omega, fillI hg rfl⟩) (by omega)
  refine V.lvs [1, 0] rfl ?_
  exact L2 _ 0 vf (⟨by omega, fun j hj => absurd hj (Nat.not_lt_zero j)⟩) (Nat.lt_succ_self _)
set_option maxRecDepth 100000 in
set_option maxHeartbeats 4000000 in
theorem c_X8_day (l : Launch) (E : Et) (k : Nat) (th : Nat) (tr : Nat) (wh : Int32) (g : Nat) (rr : Option Nat) (q : Nat → Nat) (z : Nat → Nat) (nb : Int32) (wa : Int32) (wd : Int64) (ev : Nat) (al : Int32) (wl : Int64) (cy : Nat → Nat) (kp : Nat) (nc : Nat) (cb : Nat → Nat) (mn : Nat → Int32) (ink : Nat → Nat) (t : Nat) (dd : Nat) (xf : Nat → Int32) (ac : Nat) (pp : Nat → Pv) (hcl : cy 5 ≤ 8) (hink : ∀ c, ink c ≤ 40) (hz : ∀ c, cy 5 ≤ c → ink c = 0) (hac : ac ≤ 16) (hdd : dd < 999) : Ct l E yX8_day cX8_day 2 (some .int) 5 0 0 [.ref k] [ob k 8 [.int (nI th), .int (nI tr), .int wh, .ref g, va_rf rr, .ref (q 5), .int (nI (z 6)), .int (nI (z 7)), .int (nI (z 8)), .int (nI (z 9)), .int (nI (z 10)), .int nb, .int (nI (z 12)), .int wa, .long wd, .ref (q 15), .ref (q 16), .ref (q 17), .ref (q 18), .int (nI ac), .int (nI (z 20)), .ref (q 21), .long (lN ev), .ref (q 23), .ref (q 24), .int (nI (z 25)), .ref (q 26), .int al, .long wl, .int (nI (z 29))], ob g 7 [.int (nI (cy 0)), .int (nI (cy 1)), .int (nI (cy 2)), .int (nI (cy 3)), .int (nI (cy 4)), .int (nI (cy 5)), .int (nI (cy 6)), .int (nI (cy 7)), .int (nI kp), .int (nI nc), .ref (cb 0), .ref (cb 1), .ref (cb 2), .ref (cb 3), .ref (cb 4), .ref (cb 5), .ref (cb 6), .ref (cb 7), .ref (cb 8), .ref (cb 9), .ref (cb 10), .ref (cb 11)], aI E (q 15) 25 (xF mn ink t dd), aI E (q 16) 25 xf, aI E (q 17) 400 (rwF pp)] (wrI [ob k 8 [.int (nI 0), .int (nI 0), .int (-1), .ref g, va_rf rr, .ref (q 5), .int (nI (z 6)), .int (nI (z 7)), .int (nI (z 8)), .int (nI (z 9)), .int (nI (z 10)), .int nb, .int (nI (z 12)), .int wa, .long wd, .ref (q 15), .ref (q 16), .ref (q 17), .ref (q 18), .int (nI (kaA ac)), .int (nI (z 20)), .ref (q 21), .long (lN ev), .ref (q 23), .ref (q 24), .int (nI (z 25)), .ref (q 26), .int al, .long wl, .int (nI (z 29))], ob g 7 [.int (nI (cy 0)), .int (nI (cy 1)), .int (nI (cy 2)), .int (nI (cy 3)), .int (nI (cy 4)), .int (nI (cy 5)), .int (nI (cy 6)), .int (nI (cy 7)), .int (nI kp), .int (nI nc), .ref (cb 0), .ref (cb 1), .ref (cb 2), .ref (cb 3), .ref (cb 4), .ref (cb 5), .ref (cb 6), .ref (cb 7), .ref (cb 8), .ref (cb 9), .ref (cb 10), .ref (cb 11)], aI E (q 15) 25 (xF mn (fun c => ink c - 1) t (dd + 1)), aI E (q 16) 25 (xF mn (fun c => ink c - 1) t (dd + 1)), aI E (q 17) 400 (rwF (rmP pp ac (ink, mn, t, dd)))] (nI (lostB ink (fun c => ink c - 1)))) := by
  refine Ct.intro (by decide +kernel) (Nat.le_of_ble_eq_true rfl) (lv := [(0, .ref k)]) rfl ?_
  intro Z X Y
  refine v_aload_n X dX8_day_0 rfl 0 rfl ?_
  refine v_iconst X dX8_day_1 (v := nI 0) (by decide) ?_
  refine v_put X kcX8 fl_X8_43 dX8_day_2 0 rfl (ws' := [ob k 8 [.int (nI 0), .int (nI tr), .int wh, .ref g, va_rf rr, .ref (q 5), .int (nI (z 6)), .int (nI (z 7)), .int (nI (z 8)), .int (nI (z 9)), .int (nI (z 10)), .int nb, .int (nI (z 12)), .int wa, .long wd, .ref (q 15), .ref (q 16), .ref (q 17), .ref (q 18), .int (nI ac), .int (nI (z 20)), .ref (q 21), .long (lN ev), .ref (q 23), .ref (q 24), .int (nI (z 25)), .ref (q 26), .int al, .long wl, .int (nI (z 29))], ob g 7 [.int (nI (cy 0)), .int (nI (cy 1)), .int (nI (cy 2)), .int (nI (cy 3)), .int (nI (cy 4)), .int (nI (cy 5)), .int (nI (cy 6)), .int (nI (cy 7)), .int (nI kp), .int (nI nc), .ref (cb 0), .ref (cb 1), .ref (cb 2), .ref (cb 3), .ref (cb 4), .ref (cb 5), .ref (cb 6), .ref (cb 7), .ref (cb 8), .ref (cb 9), .ref (cb 10), .ref (cb 11)], aI E (q 15) 25 (xF mn ink t dd), aI E (q 16) 25 xf, aI E (q 17) 400 (rwF pp)]) rfl rfl ?_
  refine v_aload_n X dX8_day_5 rfl 0 rfl ?_
  refine v_get X kcX8 fl_X8_306 dX8_day_6 0 rfl rfl ?_
  refine v_ifnonnull X dX8_day_9 (tgt := 18) (by decide) ?_
  refine v_aload_n X dX8_day_18 rfl 0 rfl ?_
  refine v_get X kcX8 fl_X8_17 dX8_day_19 0 rfl rfl ?_
  refine v_bipush X dX8_day_22 (v := nI 24) (by decide) ?_
  refine v_iald X dX8_day_24 2 rfl (by decide) (by decide) ?_
  refine v_eqi (x' := nI dd) (xF_d) ?_
  refine v_sipush X dX8_day_25 (v := nI 999) (by decide) ?_
  refine v_icmpN_ne X dX8_day_28 (tgt := 37) (by decide) (by omega) (by decide) (fun h28 => ?_) (fun h28 => ?_)
  · refine v_aload_n X dX8_day_37 rfl 0 rfl ?_
    refine v_wrV1 X (rn_V X k_X8_remembers ml_X8_469 dX8_day_38 (c_X8_remembers l E k 0 tr wh g rr q z nb wa wd ev al wl mn ink t dd ac pp (by first | assumption | omega)) rfl 0 rfl rfl (by decide) (by decide) (by omega) (by omega) (Nat.le_of_ble_eq_true rfl)) [0, 2, 4] rfl rfl (ws' := [ob k 8 [.int (nI 0), .int (nI tr), .int wh, .ref g, va_rf rr, .ref (q 5), .int (nI (z 6)), .int (nI (z 7)), .int (nI (z 8)), .int (nI (z 9)), .int (nI (z 10)), .int nb, .int (nI (z 12)), .int wa, .long wd, .ref (q 15), .ref (q 16), .ref (q 17), .ref (q 18), .int (nI (kaA ac)), .int (nI (z 20)), .ref (q 21), .long (lN ev), .ref (q 23), .ref (q 24), .int (nI (z 25)), .ref (q 26), .int al, .long wl, .int (nI (z 29))], ob g 7 [.int (nI (cy 0)), .int (nI (cy 1)), .int (nI (cy 2)), .int (nI (cy 3)), .int (nI (cy 4)), .int (nI (cy 5)), .int (nI (cy 6)), .int (nI (cy 7)), .int (nI kp), .int (nI nc), .ref (cb 0), .ref (cb 1), .ref (cb 2), .ref (cb 3), .ref (cb 4), .ref (cb 5), .ref (cb 6), .ref (cb 7), .ref (cb 8), .ref (cb 9), .ref (cb 10), .ref (cb 11)], aI E (q 15) 25 (xF mn ink t dd), aI E (q 16) 25 xf, aI E (q 17) 400 (rwF (rmP pp ac (ink, mn, t, dd)))]) rfl rfl ?_
    refine v_aload_n X dX8_day_41 rfl 0 rfl ?_
    refine v_wrV1 X (rn_V X k_X8_works ml_X8_326 dX8_day_42 (c_X8_works l E k 0 tr wh g rr q (upN z 19 (kaA ac)) nb wa wd ev al wl xf (xF mn ink t dd) ) rfl 0 rfl rfl (by decide) (by decide) (by omega) (by omega) (Nat.le_of_ble_eq_true rfl)) [0, 2, 3] rfl rfl (ws' := [ob k 8 [.int (nI 0), .int (nI tr), .int wh, .ref g, va_rf rr, .ref (q 5), .int (nI (z 6)), .int (nI (z 7)), .int (nI (z 8)), .int (nI (z 9)), .int (nI (z 10)), .int nb, .int (nI (z 12)), .int wa, .long wd, .ref (q 15), .ref (q 16), .ref (q 17), .ref (q 18), .int (nI (kaA ac)), .int (nI (z 20)), .ref (q 21), .long (lN ev), .ref (q 23), .ref (q 24), .int (nI (z 25)), .ref (q 26), .int al, .long wl, .int (nI (z 29))], ob g 7 [.int (nI (cy 0)), .int (nI (cy 1)), .int (nI (cy 2)), .int (nI (cy 3)), .int (nI (cy 4)), .int (nI (cy 5)), .int (nI (cy 6)), .int (nI (cy 7)), .int (nI kp), .int (nI nc), .ref (cb 0), .ref (cb 1), .ref (cb 2), .ref (cb 3), .ref (cb 4), .ref (cb 5), .ref (cb 6), .ref (cb 7), .ref (cb 8), .ref (cb 9), .ref (cb 10), .ref (cb 11)], aI E (q 15) 25 (xF mn ink t dd), aI E (q 16) 25 (xF mn ink t dd), aI E (q 17) 400 (rwF (rmP pp ac (ink, mn, t, dd)))]) rfl rfl ?_
    refine v_aload_n X dX8_day_45 rfl 0 rfl ?_
    refine v_roI1 X (rn_V X k_X8_bindingAll ml_X8_378 dX8_day_46 (c_X8_bindingAll l E k 0 tr wh g rr q (upN z 19 (kaA ac)) nb wa wd ev al wl cy kp nc cb mn ink t dd (by first | assumption | omega) (by first | assumption | omega) (by first | assumption | omega)) rfl 0 rfl rfl (by decide) (by decide) (by omega) (by omega) (Nat.le_of_ble_eq_true rfl)) [0, 1, 3] rfl rfl ?_
    refine v_istore_n X dX8_day_49 rfl (by decide) (lv' := [(1, .int (nI (bbits (fun cx => decide (0 < ink cx)) 8))), (0, .ref k)]) rfl ?_
    refine v_aload_n X dX8_day_50 rfl 1 rfl ?_
    refine v_iconst X dX8_day_51 (v := nI 1) (by decide) ?_
    refine v_wrV1 X (rn_V X k_X8_days ml_X8_387 dX8_day_52 (c_X8_days l E k 0 tr wh g rr q (upN z 19 (kaA ac)) nb wa wd ev al wl cy kp nc cb mn ink t dd 1 (by first | assumption | omega) (by first | assumption | omega) (by first | assumption | omega) (by first | assumption | omega)) rfl 0 rfl rfl (by decide) (by decide) (by omega) (by omega) (Nat.le_of_ble_eq_true rfl)) [0, 1, 3] rfl rfl (ws' := [ob k 8 [.int (nI 0), .int (nI tr), .int wh, .ref g, va_rf rr, .ref (q 5), .int (nI (z 6)), .int (nI (z 7)), .int (nI (z 8)), .int (nI (z 9)), .int (nI (z 10)), .int nb, .int (nI (z 12)), .int wa, .long wd, .ref (q 15), .ref (q 16), .ref (q 17), .ref (q 18), .int (nI (kaA ac)), .int (nI (z 20)), .ref (q 21), .long (lN ev), .ref (q 23), .ref (q 24), .int (nI (z 25)), .ref (q 26), .int al, .long wl, .int (nI (z 29))], ob g 7 [.int (nI (cy 0)), .int (nI (cy 1)), .int (nI (cy 2)), .int (nI (cy 3)), .int (nI (cy 4)), .int (nI (cy 5)), .int (nI (cy 6)), .int (nI (cy 7)), .int (nI kp), .int (nI nc), .ref (cb 0), .ref (cb 1), .ref (cb 2), .ref (cb 3), .ref (cb 4), .ref (cb 5), .ref (cb 6), .ref (cb 7), .ref (cb 8), .ref (cb 9), .ref (cb 10), .ref (cb 11)], aI E (q 15) 25 (xF mn ink t dd), aI E (q 16) 25 (xF mn (fun c => ink c - 1) t (dd + 1)), aI E (q 17) 400 (rwF (rmP pp ac (ink, mn, t, dd)))]) rfl rfl ?_
    refine v_aload_n X dX8_day_55 rfl 1 rfl ?_
    refine v_wrV1 X (rn_V X k_X8_remains ml_X8_472 dX8_day_56 (c_X8_remains l E k 0 tr wh g rr q (upN z 19 (kaA ac)) nb wa wd ev al wl (xF mn (fun c => ink c - 1) t (dd + 1)) (xF mn ink t dd) ) rfl 0 rfl rfl (by decide) (by decide) (by omega) (by omega) (Nat.le_of_ble_eq_true rfl)) [0, 2, 3] rfl rfl (ws' := [ob k 8 [.int (nI 0), .int (nI tr), .int wh, .ref g, va_rf rr, .ref (q 5), .int (nI (z 6)), .int (nI (z 7)), .int (nI (z 8)), .int (nI (z 9)), .int (nI (z 10)), .int nb, .int (nI (z 12)), .int wa, .long wd, .ref (q 15), .ref (q 16), .ref (q 17), .ref (q 18), .int (nI (kaA ac)), .int (nI (z 20)), .ref (q 21), .long (lN ev), .ref (q 23), .ref (q 24), .int (nI (z 25)), .ref (q 26), .int al, .long wl, .int (nI (z 29))], ob g 7 [.int (nI (cy 0)), .int (nI (cy 1)), .int (nI (cy 2)), .int (nI (cy 3)), .int (nI (cy 4)), .int (nI (cy 5)), .int (nI (cy 6)), .int (nI (cy 7)), .int (nI kp), .int (nI nc), .ref (cb 0), .ref (cb 1), .ref (cb 2), .ref (cb 3), .ref (cb 4), .ref (cb 5), .ref (cb 6), .ref (cb 7), .ref (cb 8), .ref (cb 9), .ref (cb 10), .ref (cb 11)], aI E (q 15) 25 (xF mn (fun c => ink c - 1) t (dd + 1)), aI E (q 16) 25 (xF mn (fun c => ink c - 1) t (dd + 1)), aI E (q 17) 400 (rwF (rmP pp ac (ink, mn, t, dd)))]) rfl rfl ?_
    refine v_aload_n X dX8_day_59 rfl 1 rfl ?_
    refine v_iload_n X dX8_day_60 rfl 0 rfl ?_
    refine v_aload_n X dX8_day_61 rfl 1 rfl ?_
    refine v_roI1 X (rn_V X k_X8_bindingAll ml_X8_378 dX8_day_62 (c_X8_bindingAll l E k 0 tr wh g rr q (upN z 19 (kaA ac)) nb wa wd ev al wl cy kp nc cb mn (fun c => ink c - 1) t (dd + 1) (by first | assumption | omega) (fun c => Nat.le_trans (Nat.sub_le _ _) (hink c)) (fun c hc => by rw [hz c hc, Nat.zero_sub])) rfl 0 rfl rfl (by decide) (by decide) (by omega) (by omega) (Nat.le_of_ble_eq_true rfl)) [0, 1, 3] rfl rfl ?_
    refine v_iconst X dX8_day_65 (v := (-1)) (by decide) ?_
    refine v_ixor X dX8_day_66 ?_
    refine v_iand X dX8_day_67 ?_
    refine v_eqi (x' := nI (ndf (bbits (fun cx => decide (0 < ink cx)) 8) (bbits (fun cx => decide (0 < (fun c => ink c - 1) cx)) 8))) (nI_andn _ _) ?_
    refine v_wrI1 X (rn_V X k_X8_good ml_X8_53 dX8_day_68 (c_X8_good l E k 0 tr wh g rr q (upN z 19 (kaA ac)) nb wa wd ev al wl (nI (ndf (bbits (fun cx => decide (0 < ink cx)) 8) (bbits (fun cx => decide (0 < (fun c => ink c - 1) cx)) 8))) ) rfl 0 rfl rfl (by decide) (by decide) (by omega) (by omega) (Nat.le_of_ble_eq_true rfl)) [0] rfl rfl (ws' := [ob k 8 [.int (nI 0), .int (nI 0), .int (-1), .ref g, va_rf rr, .ref (q 5), .int (nI (z 6)), .int (nI (z 7)), .int (nI (z 8)), .int (nI (z 9)), .int (nI (z 10)), .int nb, .int (nI (z 12)), .int wa, .long wd, .ref (q 15), .ref (q 16), .ref (q 17), .ref (q 18), .int (nI (kaA ac)), .int (nI (z 20)), .ref (q 21), .long (lN ev), .ref (q 23), .ref (q 24), .int (nI (z 25)), .ref (q 26), .int al, .long wl, .int (nI (z 29))], ob g 7 [.int (nI (cy 0)), .int (nI (cy 1)), .int (nI (cy 2)), .int (nI (cy 3)), .int (nI (cy 4)), .int (nI (cy 5)), .int (nI (cy 6)), .int (nI (cy 7)), .int (nI kp), .int (nI nc), .ref (cb 0), .ref (cb 1), .ref (cb 2), .ref (cb 3), .ref (cb 4), .ref (cb 5), .ref (cb 6), .ref (cb 7), .ref (cb 8), .ref (cb 9), .ref (cb 10), .ref (cb 11)], aI E (q 15) 25 (xF mn (fun c => ink c - 1) t (dd + 1)), aI E (q 16) 25 (xF mn (fun c => ink c - 1) t (dd + 1)), aI E (q 17) 400 (rwF (rmP pp ac (ink, mn, t, dd)))]) rfl rfl ?_
    exact v_iret X Y dX8_day_71 (wrI_of rfl (rfl)) (by omega) (by omega)
  · exfalso; omega
set_option maxRecDepth 100000 in
set_option maxHeartbeats 4000000 in
theorem c_X8_day_no3 (l : Launch) (E : Et) (k : Nat) (th : Nat) (tr : Nat) (wh : Int32) (g : Nat) (rr : Option Nat) (q : Nat → Nat) (z : Nat → Nat) (nb : Int32) (wa : Int32) (wd : Int64) (ev : Nat) (al : Int32) (wl : Int64) (cy : Nat → Nat) (kp : Nat) (nc : Nat) (cb : Nat → Nat) (mn : Nat → Int32) (ink : Nat → Nat) (t : Nat) (dd : Nat) (hdd : dd = 999) : Ct l E yX8_day cX8_day 2 (some .int) 5 0 0 [.ref k] [ob k 8 [.int (nI th), .int (nI tr), .int wh, .ref g, va_rf rr, .ref (q 5), .int (nI (z 6)), .int (nI (z 7)), .int (nI (z 8)), .int (nI (z 9)), .int (nI (z 10)), .int nb, .int (nI (z 12)), .int wa, .long wd, .ref (q 15), .ref (q 16), .ref (q 17), .ref (q 18), .int (nI (z 19)), .int (nI (z 20)), .ref (q 21), .long (lN ev), .ref (q 23), .ref (q 24), .int (nI (z 25)), .ref (q 26), .int al, .long wl, .int (nI (z 29))], ob g 7 [.int (nI (cy 0)), .int (nI (cy 1)), .int (nI (cy 2)), .int (nI (cy 3)), .int (nI (cy 4)), .int (nI (cy 5)), .int (nI (cy 6)), .int (nI (cy 7)), .int (nI kp), .int (nI nc), .ref (cb 0), .ref (cb 1), .ref (cb 2), .ref (cb 3), .ref (cb 4), .ref (cb 5), .ref (cb 6), .ref (cb 7), .ref (cb 8), .ref (cb 9), .ref (cb 10), .ref (cb 11)], aI E (q 15) 25 (xF mn ink t dd)] (wrI [ob k 8 [.int (nI 0), .int (nI 3), .int (-1), .ref g, va_rf rr, .ref (q 5), .int (nI (z 6)), .int (nI (z 7)), .int (nI (z 8)), .int (nI (z 9)), .int (nI (z 10)), .int nb, .int (nI (z 12)), .int wa, .long wd, .ref (q 15), .ref (q 16), .ref (q 17), .ref (q 18), .int (nI (z 19)), .int (nI (z 20)), .ref (q 21), .long (lN ev), .ref (q 23), .ref (q 24), .int (nI (z 25)), .ref (q 26), .int al, .long wl, .int (nI (z 29))], ob g 7 [.int (nI (cy 0)), .int (nI (cy 1)), .int (nI (cy 2)), .int (nI (cy 3)), .int (nI (cy 4)), .int (nI (cy 5)), .int (nI (cy 6)), .int (nI (cy 7)), .int (nI kp), .int (nI nc), .ref (cb 0), .ref (cb 1), .ref (cb 2), .ref (cb 3), .ref (cb 4), .ref (cb 5), .ref (cb 6), .ref (cb 7), .ref (cb 8), .ref (cb 9), .ref (cb 10), .ref (cb 11)], aI E (q 15) 25 (xF mn ink t dd)] (-1)) := by
  refine Ct.intro (by decide +kernel) (Nat.le_of_ble_eq_true rfl) (lv := [(0, .ref k)]) rfl ?_
  intro Z X Y
  refine v_aload_n X dX8_day_0 rfl 0 rfl ?_
  refine v_iconst X dX8_day_1 (v := nI 0) (by decide) ?_
  refine v_put X kcX8 fl_X8_43 dX8_day_2 0 rfl (ws' := [ob k 8 [.int (nI 0), .int (nI tr), .int wh, .ref g, va_rf rr, .ref (q 5), .int (nI (z 6)), .int (nI (z 7)), .int (nI (z 8)), .int (nI (z 9)), .int (nI (z 10)), .int nb, .int (nI (z 12)), .int wa, .long wd, .ref (q 15), .ref (q 16), .ref (q 17), .ref (q 18), .int (nI (z 19)), .int (nI (z 20)), .ref (q 21), .long (lN ev), .ref (q 23), .ref (q 24), .int (nI (z 25)), .ref (q 26), .int al, .long wl, .int (nI (z 29))], ob g 7 [.int (nI (cy 0)), .int (nI (cy 1)), .int (nI (cy 2)), .int (nI (cy 3)), .int (nI (cy 4)), .int (nI (cy 5)), .int (nI (cy 6)), .int (nI (cy 7)), .int (nI kp), .int (nI nc), .ref (cb 0), .ref (cb 1), .ref (cb 2), .ref (cb 3), .ref (cb 4), .ref (cb 5), .ref (cb 6), .ref (cb 7), .ref (cb 8), .ref (cb 9), .ref (cb 10), .ref (cb 11)], aI E (q 15) 25 (xF mn ink t dd)]) rfl rfl ?_
  refine v_aload_n X dX8_day_5 rfl 0 rfl ?_
  refine v_get X kcX8 fl_X8_306 dX8_day_6 0 rfl rfl ?_
  refine v_ifnonnull X dX8_day_9 (tgt := 18) (by decide) ?_
  refine v_aload_n X dX8_day_18 rfl 0 rfl ?_
  refine v_get X kcX8 fl_X8_17 dX8_day_19 0 rfl rfl ?_
  refine v_bipush X dX8_day_22 (v := nI 24) (by decide) ?_
  refine v_iald X dX8_day_24 2 rfl (by decide) (by decide) ?_
  refine v_eqi (x' := nI dd) (xF_d) ?_
  refine v_sipush X dX8_day_25 (v := nI 999) (by decide) ?_
  refine v_icmpN_ne X dX8_day_28 (tgt := 37) (by decide) (by omega) (by decide) (fun h28 => ?_) (fun h28 => ?_)
  · exfalso; omega
  · refine v_aload_n X dX8_day_31 rfl 0 rfl ?_
    refine v_iconst X dX8_day_32 (v := nI 3) (by decide) ?_
    refine v_wrI1 X (rn_V X k_X8_refused ml_X8_49 dX8_day_33 (c_X8_refused l E k 0 tr wh g rr q z nb wa wd ev al wl 3 ) rfl 0 rfl rfl (by decide) (by decide) (by omega) (by omega) (Nat.le_of_ble_eq_true rfl)) [0] rfl rfl (ws' := [ob k 8 [.int (nI 0), .int (nI 3), .int (-1), .ref g, va_rf rr, .ref (q 5), .int (nI (z 6)), .int (nI (z 7)), .int (nI (z 8)), .int (nI (z 9)), .int (nI (z 10)), .int nb, .int (nI (z 12)), .int wa, .long wd, .ref (q 15), .ref (q 16), .ref (q 17), .ref (q 18), .int (nI (z 19)), .int (nI (z 20)), .ref (q 21), .long (lN ev), .ref (q 23), .ref (q 24), .int (nI (z 25)), .ref (q 26), .int al, .long wl, .int (nI (z 29))], ob g 7 [.int (nI (cy 0)), .int (nI (cy 1)), .int (nI (cy 2)), .int (nI (cy 3)), .int (nI (cy 4)), .int (nI (cy 5)), .int (nI (cy 6)), .int (nI (cy 7)), .int (nI kp), .int (nI nc), .ref (cb 0), .ref (cb 1), .ref (cb 2), .ref (cb 3), .ref (cb 4), .ref (cb 5), .ref (cb 6), .ref (cb 7), .ref (cb 8), .ref (cb 9), .ref (cb 10), .ref (cb 11)], aI E (q 15) 25 (xF mn ink t dd)]) rfl rfl ?_
    exact v_iret X Y dX8_day_36 (wrI_of rfl rfl) (by omega) (by omega)
set_option maxRecDepth 100000 in
set_option maxHeartbeats 4000000 in
theorem c_X8_day_n (l : Launch) (E : Et) (k : Nat) (th : Nat) (tr : Nat) (wh : Int32) (rr : Option Nat) (q : Nat → Nat) (z : Nat → Nat) (nb : Int32) (wa : Int32) (wd : Int64) (ev : Nat) (al : Int32) (wl : Int64)  : Ct l E yX8_day cX8_day 2 (some .int) 5 0 0 [.ref k] [ob k 8 [.int (nI th), .int (nI tr), .int wh, .null, va_rf rr, .ref (q 5), .int (nI (z 6)), .int (nI (z 7)), .int (nI (z 8)), .int (nI (z 9)), .int (nI (z 10)), .int nb, .int (nI (z 12)), .int wa, .long wd, .ref (q 15), .ref (q 16), .ref (q 17), .ref (q 18), .int (nI (z 19)), .int (nI (z 20)), .ref (q 21), .long (lN ev), .ref (q 23), .ref (q 24), .int (nI (z 25)), .ref (q 26), .int al, .long wl, .int (nI (z 29))]] (wrI [ob k 8 [.int (nI 0), .int (nI 1), .int (-1), .null, va_rf rr, .ref (q 5), .int (nI (z 6)), .int (nI (z 7)), .int (nI (z 8)), .int (nI (z 9)), .int (nI (z 10)), .int nb, .int (nI (z 12)), .int wa, .long wd, .ref (q 15), .ref (q 16), .ref (q 17), .ref (q 18), .int (nI (z 19)), .int (nI (z 20)), .ref (q 21), .long (lN ev), .ref (q 23), .ref (q 24), .int (nI (z 25)), .ref (q 26), .int al, .long wl, .int (nI (z 29))]] (-1)) := by
  refine Ct.intro (by decide +kernel) (Nat.le_of_ble_eq_true rfl) (lv := [(0, .ref k)]) rfl ?_
  intro Z X Y
  refine v_aload_n X dX8_day_0 rfl 0 rfl ?_
  refine v_iconst X dX8_day_1 (v := nI 0) (by decide) ?_
  refine v_put X kcX8 fl_X8_43 dX8_day_2 0 rfl (ws' := [ob k 8 [.int (nI 0), .int (nI tr), .int wh, .null, va_rf rr, .ref (q 5), .int (nI (z 6)), .int (nI (z 7)), .int (nI (z 8)), .int (nI (z 9)), .int (nI (z 10)), .int nb, .int (nI (z 12)), .int wa, .long wd, .ref (q 15), .ref (q 16), .ref (q 17), .ref (q 18), .int (nI (z 19)), .int (nI (z 20)), .ref (q 21), .long (lN ev), .ref (q 23), .ref (q 24), .int (nI (z 25)), .ref (q 26), .int al, .long wl, .int (nI (z 29))]]) rfl rfl ?_
  refine v_aload_n X dX8_day_5 rfl 0 rfl ?_
  refine v_get X kcX8 fl_X8_306 dX8_day_6 0 rfl rfl ?_
  refine v_ifnonnullN X dX8_day_9 ?_
  refine v_aload_n X dX8_day_12 rfl 0 rfl ?_
  refine v_iconst X dX8_day_13 (v := nI 1) (by decide) ?_
  refine v_wrI1 X (rn_V X k_X8_refused ml_X8_49 dX8_day_14 (c_X8_refused_n l E k 0 tr wh rr q z nb wa wd ev al wl 1 ) rfl 0 rfl rfl (by decide) (by decide) (by omega) (by omega) (Nat.le_of_ble_eq_true rfl)) [0] rfl rfl (ws' := [ob k 8 [.int (nI 0), .int (nI 1), .int (-1), .null, va_rf rr, .ref (q 5), .int (nI (z 6)), .int (nI (z 7)), .int (nI (z 8)), .int (nI (z 9)), .int (nI (z 10)), .int nb, .int (nI (z 12)), .int wa, .long wd, .ref (q 15), .ref (q 16), .ref (q 17), .ref (q 18), .int (nI (z 19)), .int (nI (z 20)), .ref (q 21), .long (lN ev), .ref (q 23), .ref (q 24), .int (nI (z 25)), .ref (q 26), .int al, .long wl, .int (nI (z 29))]]) rfl rfl ?_
  exact v_iret X Y dX8_day_17 (wrI_of rfl rfl) (by omega) (by omega)
set_option maxRecDepth 100000 in
set_option maxHeartbeats 4000000 in
theorem c_X8_press (l : Launch) (E : Et) (k : Nat) (th : Nat) (tr : Nat) (wh : Int32) (g : Nat) (rr : Option Nat) (q : Nat → Nat) (z : Nat → Nat) (nb : Int32) (wa : Int32) (wd : Int64) (ev : Nat) (al : Int32) (wl : Int64) (cy : Nat → Nat) (kp : Nat) (nc : Nat) (cb : Nat → Nat) (mn : Nat → Int32) (ink : Nat → Nat) (t : Nat) (dd : Nat) (xf : Nat → Int32) (ac : Nat) (pp : Nat → Pv) (ik : Nat → Nat) (c : Nat) (m : Int32) (hcl : cy 5 ≤ 8) (hink : ∀ c, ink c ≤ 40) (hz : ∀ c, cy 5 ≤ c → ink c = 0) (hac : ac ≤ 16) (hbl : cy 0 ≤ 9) (hik : ∀ c, c < cy 5 → ik c ≤ 40) (hc : c < cy 5) (hm_ : okM m (cy 3)) : Ct l E yX8_press cX8_press 4 (some .int) 5 0 0 [.ref k, .int (nI c), .int m] [ob k 8 [.int (nI th), .int (nI tr), .int wh, .ref g, va_rf rr, .ref (q 5), .int (nI (z 6)), .int (nI (z 7)), .int (nI (z 8)), .int (nI (z 9)), .int (nI (z 10)), .int nb, .int (nI (z 12)), .int wa, .long wd, .ref (q 15), .ref (q 16), .ref (q 17), .ref (q 18), .int (nI ac), .int (nI (z 20)), .ref (q 21), .long (lN ev), .ref (q 23), .ref (q 24), .int (nI (z 25)), .ref (q 26), .int al, .long wl, .int (nI (z 29))], ob g 7 [.int (nI (cy 0)), .int (nI (cy 1)), .int (nI (cy 2)), .int (nI (cy 3)), .int (nI (cy 4)), .int (nI (cy 5)), .int (nI (cy 6)), .int (nI (cy 7)), .int (nI kp), .int (nI nc), .ref (cb 0), .ref (cb 1), .ref (cb 2), .ref (cb 3), .ref (cb 4), .ref (cb 5), .ref (cb 6), .ref (cb 7), .ref (cb 8), .ref (cb 9), .ref (cb 10), .ref (cb 11)], aN E (cb 1) 8 ik, aI E (q 15) 25 (xF mn ink t dd), aI E (q 16) 25 xf, aI E (q 17) 400 (rwF pp)] (wrI [ob k 8 [.int (nI 0), .int (nI 0), .int (-1), .ref g, va_rf rr, .ref (q 5), .int (nI (z 6)), .int (nI (z 7)), .int (nI (z 8)), .int (nI (z 9)), .int (nI (z 10)), .int nb, .int (nI (z 12)), .int wa, .long wd, .ref (q 15), .ref (q 16), .ref (q 17), .ref (q 18), .int (nI (kaA ac)), .int (nI (z 20)), .ref (q 21), .long (lN ev), .ref (q 23), .ref (q 24), .int (nI (z 25)), .ref (q 26), .int al, .long wl, .int (nI (z 29))], ob g 7 [.int (nI (cy 0)), .int (nI (cy 1)), .int (nI (cy 2)), .int (nI (cy 3)), .int (nI (cy 4)), .int (nI (cy 5)), .int (nI (cy 6)), .int (nI (cy 7)), .int (nI kp), .int (nI nc), .ref (cb 0), .ref (cb 1), .ref (cb 2), .ref (cb 3), .ref (cb 4), .ref (cb 5), .ref (cb 6), .ref (cb 7), .ref (cb 8), .ref (cb 9), .ref (cb 10), .ref (cb 11)], aN E (cb 1) 8 ik, aI E (q 15) 25 (xF (upd mn c m) (upN (blurN ink mn c m (cy 0)) c (ik c)) t dd), aI E (q 16) 25 (xF (upd mn c m) (upN (blurN ink mn c m (cy 0)) c (ik c)) t dd), aI E (q 17) 400 (rwF (rmP pp ac (ink, mn, t, dd)))] (nI (lostB ink (upN (blurN ink mn c m (cy 0)) c (ik c))))) := by
  refine Ct.intro (by decide +kernel) (Nat.le_of_ble_eq_true rfl) (lv := [(0, .ref k), (1, .int (nI c)), (2, .int m)]) rfl ?_
  intro Z X Y
  refine v_aload_n X dX8_press_0 rfl 0 rfl ?_
  refine v_iconst X dX8_press_1 (v := nI 0) (by decide) ?_
  refine v_put X kcX8 fl_X8_43 dX8_press_2 0 rfl (ws' := [ob k 8 [.int (nI 0), .int (nI tr), .int wh, .ref g, va_rf rr, .ref (q 5), .int (nI (z 6)), .int (nI (z 7)), .int (nI (z 8)), .int (nI (z 9)), .int (nI (z 10)), .int nb, .int (nI (z 12)), .int wa, .long wd, .ref (q 15), .ref (q 16), .ref (q 17), .ref (q 18), .int (nI ac), .int (nI (z 20)), .ref (q 21), .long (lN ev), .ref (q 23), .ref (q 24), .int (nI (z 25)), .ref (q 26), .int al, .long wl, .int (nI (z 29))], ob g 7 [.int (nI (cy 0)), .int (nI (cy 1)), .int (nI (cy 2)), .int (nI (cy 3)), .int (nI (cy 4)), .int (nI (cy 5)), .int (nI (cy 6)), .int (nI (cy 7)), .int (nI kp), .int (nI nc), .ref (cb 0), .ref (cb 1), .ref (cb 2), .ref (cb 3), .ref (cb 4), .ref (cb 5), .ref (cb 6), .ref (cb 7), .ref (cb 8), .ref (cb 9), .ref (cb 10), .ref (cb 11)], aN E (cb 1) 8 ik, aI E (q 15) 25 (xF mn ink t dd), aI E (q 16) 25 xf, aI E (q 17) 400 (rwF pp)]) rfl rfl ?_
  refine v_aload_n X dX8_press_5 rfl 0 rfl ?_
  refine v_iload_n X dX8_press_6 rfl 1 rfl ?_
  refine v_roI1 X (rn_V X k_X8_isClause ml_X8_342 dX8_press_7 (c_X8_isClause l E k 0 tr wh g rr q (upN z 19 ac) nb wa wd ev al wl cy kp nc cb (nI c) ) rfl 0 rfl rfl (by decide) (by decide) (by omega) (by omega) (Nat.le_of_ble_eq_true rfl)) [0, 1] rfl rfl ?_
  refine v_ifB_eq X dX8_press_10 (tgt := 21) (by decide) (fun h10 => ?_) (fun h10 => ?_)
  · exact absurd (okM_of hc (by omega)) (of_decide_eq_false h10)
  · refine v_aload_n X dX8_press_13 rfl 0 rfl ?_
    refine v_iload_n X dX8_press_14 rfl 2 rfl ?_
    refine v_roI1 X (rn_V X k_X8_isMan ml_X8_345 dX8_press_15 (c_X8_isMan l E k 0 tr wh g rr q (upN z 19 ac) nb wa wd ev al wl cy kp nc cb m ) rfl 0 rfl rfl (by decide) (by decide) (by omega) (by omega) (Nat.le_of_ble_eq_true rfl)) [0, 1] rfl rfl ?_
    refine v_ifB_ne X dX8_press_18 (tgt := 27) (by decide) (fun h18 => ?_) (fun h18 => ?_)
    · refine v_aload_n X dX8_press_27 rfl 0 rfl ?_
      refine v_wrV1 X (rn_V X k_X8_remembers ml_X8_469 dX8_press_28 (c_X8_remembers l E k 0 tr wh g rr q z nb wa wd ev al wl mn ink t dd ac pp (by first | assumption | omega)) rfl 0 rfl rfl (by decide) (by decide) (by omega) (by omega) (Nat.le_of_ble_eq_true rfl)) [0, 3, 5] rfl rfl (ws' := [ob k 8 [.int (nI 0), .int (nI tr), .int wh, .ref g, va_rf rr, .ref (q 5), .int (nI (z 6)), .int (nI (z 7)), .int (nI (z 8)), .int (nI (z 9)), .int (nI (z 10)), .int nb, .int (nI (z 12)), .int wa, .long wd, .ref (q 15), .ref (q 16), .ref (q 17), .ref (q 18), .int (nI (kaA ac)), .int (nI (z 20)), .ref (q 21), .long (lN ev), .ref (q 23), .ref (q 24), .int (nI (z 25)), .ref (q 26), .int al, .long wl, .int (nI (z 29))], ob g 7 [.int (nI (cy 0)), .int (nI (cy 1)), .int (nI (cy 2)), .int (nI (cy 3)), .int (nI (cy 4)), .int (nI (cy 5)), .int (nI (cy 6)), .int (nI (cy 7)), .int (nI kp), .int (nI nc), .ref (cb 0), .ref (cb 1), .ref (cb 2), .ref (cb 3), .ref (cb 4), .ref (cb 5), .ref (cb 6), .ref (cb 7), .ref (cb 8), .ref (cb 9), .ref (cb 10), .ref (cb 11)], aN E (cb 1) 8 ik, aI E (q 15) 25 (xF mn ink t dd), aI E (q 16) 25 xf, aI E (q 17) 400 (rwF (rmP pp ac (ink, mn, t, dd)))]) rfl rfl ?_
      refine v_aload_n X dX8_press_31 rfl 0 rfl ?_
      refine v_wrV1 X (rn_V X k_X8_works ml_X8_326 dX8_press_32 (c_X8_works l E k 0 tr wh g rr q (upN z 19 (kaA ac)) nb wa wd ev al wl xf (xF mn ink t dd) ) rfl 0 rfl rfl (by decide) (by decide) (by omega) (by omega) (Nat.le_of_ble_eq_true rfl)) [0, 3, 4] rfl rfl (ws' := [ob k 8 [.int (nI 0), .int (nI tr), .int wh, .ref g, va_rf rr, .ref (q 5), .int (nI (z 6)), .int (nI (z 7)), .int (nI (z 8)), .int (nI (z 9)), .int (nI (z 10)), .int nb, .int (nI (z 12)), .int wa, .long wd, .ref (q 15), .ref (q 16), .ref (q 17), .ref (q 18), .int (nI (kaA ac)), .int (nI (z 20)), .ref (q 21), .long (lN ev), .ref (q 23), .ref (q 24), .int (nI (z 25)), .ref (q 26), .int al, .long wl, .int (nI (z 29))], ob g 7 [.int (nI (cy 0)), .int (nI (cy 1)), .int (nI (cy 2)), .int (nI (cy 3)), .int (nI (cy 4)), .int (nI (cy 5)), .int (nI (cy 6)), .int (nI (cy 7)), .int (nI kp), .int (nI nc), .ref (cb 0), .ref (cb 1), .ref (cb 2), .ref (cb 3), .ref (cb 4), .ref (cb 5), .ref (cb 6), .ref (cb 7), .ref (cb 8), .ref (cb 9), .ref (cb 10), .ref (cb 11)], aN E (cb 1) 8 ik, aI E (q 15) 25 (xF mn ink t dd), aI E (q 16) 25 (xF mn ink t dd), aI E (q 17) 400 (rwF (rmP pp ac (ink, mn, t, dd)))]) rfl rfl ?_
      refine v_aload_n X dX8_press_35 rfl 0 rfl ?_
      refine v_roI1 X (rn_V X k_X8_bindingAll ml_X8_378 dX8_press_36 (c_X8_bindingAll l E k 0 tr wh g rr q (upN z 19 (kaA ac)) nb wa wd ev al wl cy kp nc cb mn ink t dd (by first | assumption | omega) (by first | assumption | omega) (by first | assumption | omega)) rfl 0 rfl rfl (by decide) (by decide) (by omega) (by omega) (Nat.le_of_ble_eq_true rfl)) [0, 1, 4] rfl rfl ?_
      refine v_istore_n X dX8_press_39 rfl (by decide) (lv' := [(3, .int (nI (bbits (fun cx => decide (0 < ink cx)) 8))), (0, .ref k), (1, .int (nI c)), (2, .int m)]) rfl ?_
      refine v_aload_n X dX8_press_40 rfl 1 rfl ?_
      refine v_iload_n X dX8_press_41 rfl 2 rfl ?_
      refine v_iload_n X dX8_press_42 rfl 3 rfl ?_
      refine v_wrV1 X (rn_V X k_X8_presses ml_X8_317 dX8_press_43 (c_X8_presses l E k 0 tr wh g rr q (upN z 19 (kaA ac)) nb wa wd ev al wl cy kp nc cb ik mn ink t dd c m (by first | assumption | omega) (by first | assumption | omega) (by first | assumption | omega) (by first | assumption | omega) (by first | assumption | omega)) rfl 0 rfl rfl (by decide) (by decide) (by omega) (by omega) (Nat.le_of_ble_eq_true rfl)) [0, 1, 2, 4] rfl rfl (ws' := [ob k 8 [.int (nI 0), .int (nI tr), .int wh, .ref g, va_rf rr, .ref (q 5), .int (nI (z 6)), .int (nI (z 7)), .int (nI (z 8)), .int (nI (z 9)), .int (nI (z 10)), .int nb, .int (nI (z 12)), .int wa, .long wd, .ref (q 15), .ref (q 16), .ref (q 17), .ref (q 18), .int (nI (kaA ac)), .int (nI (z 20)), .ref (q 21), .long (lN ev), .ref (q 23), .ref (q 24), .int (nI (z 25)), .ref (q 26), .int al, .long wl, .int (nI (z 29))], ob g 7 [.int (nI (cy 0)), .int (nI (cy 1)), .int (nI (cy 2)), .int (nI (cy 3)), .int (nI (cy 4)), .int (nI (cy 5)), .int (nI (cy 6)), .int (nI (cy 7)), .int (nI kp), .int (nI nc), .ref (cb 0), .ref (cb 1), .ref (cb 2), .ref (cb 3), .ref (cb 4), .ref (cb 5), .ref (cb 6), .ref (cb 7), .ref (cb 8), .ref (cb 9), .ref (cb 10), .ref (cb 11)], aN E (cb 1) 8 ik, aI E (q 15) 25 (xF mn ink t dd), aI E (q 16) 25 (xF (upd mn c m) (upN (blurN ink mn c m (cy 0)) c (ik c)) t dd), aI E (q 17) 400 (rwF (rmP pp ac (ink, mn, t, dd)))]) rfl rfl ?_
      refine v_aload_n X dX8_press_46 rfl 1 rfl ?_
      refine v_wrV1 X (rn_V X k_X8_remains ml_X8_472 dX8_press_47 (c_X8_remains l E k 0 tr wh g rr q (upN z 19 (kaA ac)) nb wa wd ev al wl (xF (upd mn c m) (upN (blurN ink mn c m (cy 0)) c (ik c)) t dd) (xF mn ink t dd) ) rfl 0 rfl rfl (by decide) (by decide) (by omega) (by omega) (Nat.le_of_ble_eq_true rfl)) [0, 3, 4] rfl rfl (ws' := [ob k 8 [.int (nI 0), .int (nI tr), .int wh, .ref g, va_rf rr, .ref (q 5), .int (nI (z 6)), .int (nI (z 7)), .int (nI (z 8)), .int (nI (z 9)), .int (nI (z 10)), .int nb, .int (nI (z 12)), .int wa, .long wd, .ref (q 15), .ref (q 16), .ref (q 17), .ref (q 18), .int (nI (kaA ac)), .int (nI (z 20)), .ref (q 21), .long (lN ev), .ref (q 23), .ref (q 24), .int (nI (z 25)), .ref (q 26), .int al, .long wl, .int (nI (z 29))], ob g 7 [.int (nI (cy 0)), .int (nI (cy 1)), .int (nI (cy 2)), .int (nI (cy 3)), .int (nI (cy 4)), .int (nI (cy 5)), .int (nI (cy 6)), .int (nI (cy 7)), .int (nI kp), .int (nI nc), .ref (cb 0), .ref (cb 1), .ref (cb 2), .ref (cb 3), .ref (cb 4), .ref (cb 5), .ref (cb 6), .ref (cb 7), .ref (cb 8), .ref (cb 9), .ref (cb 10), .ref (cb 11)], aN E (cb 1) 8 ik, aI E (q 15) 25 (xF (upd mn c m) (upN (blurN ink mn c m (cy 0)) c (ik c)) t dd), aI E (q 16) 25 (xF (upd mn c m) (upN (blurN ink mn c m (cy 0)) c (ik c)) t dd), aI E (q 17) 400 (rwF (rmP pp ac (ink, mn, t, dd)))]) rfl rfl ?_
      refine v_aload_n X dX8_press_50 rfl 1 rfl ?_
      refine v_iload_n X dX8_press_51 rfl 0 rfl ?_
      refine v_aload_n X dX8_press_52 rfl 1 rfl ?_
      refine v_roI1 X (rn_V X k_X8_bindingAll ml_X8_378 dX8_press_53 (c_X8_bindingAll l E k 0 tr wh g rr q (upN z 19 (kaA ac)) nb wa wd ev al wl cy kp nc cb (upd mn c m) (upN (blurN ink mn c m (cy 0)) c (ik c)) t dd (by first | assumption | omega) (upN_le (blurN_le hink) (hik c hc)) (fun j hj => by rw [upN_ne _ _ (by omega), blurN, hz j hj, Nat.zero_sub, ite_self])) rfl 0 rfl rfl (by decide) (by decide) (by omega) (by omega) (Nat.le_of_ble_eq_true rfl)) [0, 1, 4] rfl rfl ?_
      refine v_iconst X dX8_press_56 (v := (-1)) (by decide) ?_
      refine v_ixor X dX8_press_57 ?_
      refine v_iand X dX8_press_58 ?_
      refine v_eqi (x' := nI (ndf (bbits (fun cx => decide (0 < ink cx)) 8) (bbits (fun cx => decide (0 < (upN (blurN ink mn c m (cy 0)) c (ik c)) cx)) 8))) (nI_andn _ _) ?_
      refine v_wrI1 X (rn_V X k_X8_good ml_X8_53 dX8_press_59 (c_X8_good l E k 0 tr wh g rr q (upN z 19 (kaA ac)) nb wa wd ev al wl (nI (ndf (bbits (fun cx => decide (0 < ink cx)) 8) (bbits (fun cx => decide (0 < (upN (blurN ink mn c m (cy 0)) c (ik c)) cx)) 8))) ) rfl 0 rfl rfl (by decide) (by decide) (by omega) (by omega) (Nat.le_of_ble_eq_true rfl)) [0] rfl rfl (ws' := [ob k 8 [.int (nI 0), .int (nI 0), .int (-1), .ref g, va_rf rr, .ref (q 5), .int (nI (z 6)), .int (nI (z 7)), .int (nI (z 8)), .int (nI (z 9)), .int (nI (z 10)), .int nb, .int (nI (z 12)), .int wa, .long wd, .ref (q 15), .ref (q 16), .ref (q 17), .ref (q 18), .int (nI (kaA ac)), .int (nI (z 20)), .ref (q 21), .long (lN ev), .ref (q 23), .ref (q 24), .int (nI (z 25)), .ref (q 26), .int al, .long wl, .int (nI (z 29))], ob g 7 [.int (nI (cy 0)), .int (nI (cy 1)), .int (nI (cy 2)), .int (nI (cy 3)), .int (nI (cy 4)), .int (nI (cy 5)), .int (nI (cy 6)), .int (nI (cy 7)), .int (nI kp), .int (nI nc), .ref (cb 0), .ref (cb 1), .ref (cb 2), .ref (cb 3), .ref (cb 4), .ref (cb 5), .ref (cb 6), .ref (cb 7), .ref (cb 8), .ref (cb 9), .ref (cb 10), .ref (cb 11)], aN E (cb 1) 8 ik, aI E (q 15) 25 (xF (upd mn c m) (upN (blurN ink mn c m (cy 0)) c (ik c)) t dd), aI E (q 16) 25 (xF (upd mn c m) (upN (blurN ink mn c m (cy 0)) c (ik c)) t dd), aI E (q 17) 400 (rwF (rmP pp ac (ink, mn, t, dd)))]) rfl rfl ?_
      exact v_iret X Y dX8_press_62 (wrI_of rfl (rfl)) (by omega) (by omega)
    · exact absurd hm_ (of_decide_eq_false h18)
set_option maxRecDepth 100000 in
set_option maxHeartbeats 4000000 in
theorem c_X8_press_no (l : Launch) (E : Et) (k : Nat) (th : Nat) (tr : Nat) (wh : Int32) (g : Nat) (rr : Option Nat) (q : Nat → Nat) (z : Nat → Nat) (nb : Int32) (wa : Int32) (wd : Int64) (ev : Nat) (al : Int32) (wl : Int64) (cy : Nat → Nat) (kp : Nat) (nc : Nat) (cb : Nat → Nat) (c : Int32) (m : Int32) (hno : ¬ (okM c (cy 5) ∧ okM m (cy 3))) : Ct l E yX8_press cX8_press 4 (some .int) 5 0 0 [.ref k, .int c, .int m] [ob k 8 [.int (nI th), .int (nI tr), .int wh, .ref g, va_rf rr, .ref (q 5), .int (nI (z 6)), .int (nI (z 7)), .int (nI (z 8)), .int (nI (z 9)), .int (nI (z 10)), .int nb, .int (nI (z 12)), .int wa, .long wd, .ref (q 15), .ref (q 16), .ref (q 17), .ref (q 18), .int (nI (z 19)), .int (nI (z 20)), .ref (q 21), .long (lN ev), .ref (q 23), .ref (q 24), .int (nI (z 25)), .ref (q 26), .int al, .long wl, .int (nI (z 29))], ob g 7 [.int (nI (cy 0)), .int (nI (cy 1)), .int (nI (cy 2)), .int (nI (cy 3)), .int (nI (cy 4)), .int (nI (cy 5)), .int (nI (cy 6)), .int (nI (cy 7)), .int (nI kp), .int (nI nc), .ref (cb 0), .ref (cb 1), .ref (cb 2), .ref (cb 3), .ref (cb 4), .ref (cb 5), .ref (cb 6), .ref (cb 7), .ref (cb 8), .ref (cb 9), .ref (cb 10), .ref (cb 11)]] (wrI [ob k 8 [.int (nI 0), .int (nI 1), .int (-1), .ref g, va_rf rr, .ref (q 5), .int (nI (z 6)), .int (nI (z 7)), .int (nI (z 8)), .int (nI (z 9)), .int (nI (z 10)), .int nb, .int (nI (z 12)), .int wa, .long wd, .ref (q 15), .ref (q 16), .ref (q 17), .ref (q 18), .int (nI (z 19)), .int (nI (z 20)), .ref (q 21), .long (lN ev), .ref (q 23), .ref (q 24), .int (nI (z 25)), .ref (q 26), .int al, .long wl, .int (nI (z 29))], ob g 7 [.int (nI (cy 0)), .int (nI (cy 1)), .int (nI (cy 2)), .int (nI (cy 3)), .int (nI (cy 4)), .int (nI (cy 5)), .int (nI (cy 6)), .int (nI (cy 7)), .int (nI kp), .int (nI nc), .ref (cb 0), .ref (cb 1), .ref (cb 2), .ref (cb 3), .ref (cb 4), .ref (cb 5), .ref (cb 6), .ref (cb 7), .ref (cb 8), .ref (cb 9), .ref (cb 10), .ref (cb 11)]] (-1)) := by
  refine Ct.intro (by decide +kernel) (Nat.le_of_ble_eq_true rfl) (lv := [(0, .ref k), (1, .int c), (2, .int m)]) rfl ?_
  intro Z X Y
  refine v_aload_n X dX8_press_0 rfl 0 rfl ?_
  refine v_iconst X dX8_press_1 (v := nI 0) (by decide) ?_
  refine v_put X kcX8 fl_X8_43 dX8_press_2 0 rfl (ws' := [ob k 8 [.int (nI 0), .int (nI tr), .int wh, .ref g, va_rf rr, .ref (q 5), .int (nI (z 6)), .int (nI (z 7)), .int (nI (z 8)), .int (nI (z 9)), .int (nI (z 10)), .int nb, .int (nI (z 12)), .int wa, .long wd, .ref (q 15), .ref (q 16), .ref (q 17), .ref (q 18), .int (nI (z 19)), .int (nI (z 20)), .ref (q 21), .long (lN ev), .ref (q 23), .ref (q 24), .int (nI (z 25)), .ref (q 26), .int al, .long wl, .int (nI (z 29))], ob g 7 [.int (nI (cy 0)), .int (nI (cy 1)), .int (nI (cy 2)), .int (nI (cy 3)), .int (nI (cy 4)), .int (nI (cy 5)), .int (nI (cy 6)), .int (nI (cy 7)), .int (nI kp), .int (nI nc), .ref (cb 0), .ref (cb 1), .ref (cb 2), .ref (cb 3), .ref (cb 4), .ref (cb 5), .ref (cb 6), .ref (cb 7), .ref (cb 8), .ref (cb 9), .ref (cb 10), .ref (cb 11)]]) rfl rfl ?_
  refine v_aload_n X dX8_press_5 rfl 0 rfl ?_
  refine v_iload_n X dX8_press_6 rfl 1 rfl ?_
  refine v_roI1 X (rn_V X k_X8_isClause ml_X8_342 dX8_press_7 (c_X8_isClause l E k 0 tr wh g rr q z nb wa wd ev al wl cy kp nc cb c ) rfl 0 rfl rfl (by decide) (by decide) (by omega) (by omega) (Nat.le_of_ble_eq_true rfl)) [0, 1] rfl rfl ?_
  refine v_ifB_eq X dX8_press_10 (tgt := 21) (by decide) (fun h10 => ?_) (fun h10 => ?_)
  · refine v_aload_n X dX8_press_21 rfl 0 rfl ?_
    refine v_iconst X dX8_press_22 (v := nI 1) (by decide) ?_
    refine v_wrI1 X (rn_V X k_X8_refused ml_X8_49 dX8_press_23 (c_X8_refused l E k 0 tr wh g rr q z nb wa wd ev al wl 1 ) rfl 0 rfl rfl (by decide) (by decide) (by omega) (by omega) (Nat.le_of_ble_eq_true rfl)) [0] rfl rfl (ws' := [ob k 8 [.int (nI 0), .int (nI 1), .int (-1), .ref g, va_rf rr, .ref (q 5), .int (nI (z 6)), .int (nI (z 7)), .int (nI (z 8)), .int (nI (z 9)), .int (nI (z 10)), .int nb, .int (nI (z 12)), .int wa, .long wd, .ref (q 15), .ref (q 16), .ref (q 17), .ref (q 18), .int (nI (z 19)), .int (nI (z 20)), .ref (q 21), .long (lN ev), .ref (q 23), .ref (q 24), .int (nI (z 25)), .ref (q 26), .int al, .long wl, .int (nI (z 29))], ob g 7 [.int (nI (cy 0)), .int (nI (cy 1)), .int (nI (cy 2)), .int (nI (cy 3)), .int (nI (cy 4)), .int (nI (cy 5)), .int (nI (cy 6)), .int (nI (cy 7)), .int (nI kp), .int (nI nc), .ref (cb 0), .ref (cb 1), .ref (cb 2), .ref (cb 3), .ref (cb 4), .ref (cb 5), .ref (cb 6), .ref (cb 7), .ref (cb 8), .ref (cb 9), .ref (cb 10), .ref (cb 11)]]) rfl rfl ?_
    exact v_iret X Y dX8_press_26 (wrI_of rfl rfl) (by omega) (by omega)
  · refine v_aload_n X dX8_press_13 rfl 0 rfl ?_
    refine v_iload_n X dX8_press_14 rfl 2 rfl ?_
    refine v_roI1 X (rn_V X k_X8_isMan ml_X8_345 dX8_press_15 (c_X8_isMan l E k 0 tr wh g rr q z nb wa wd ev al wl cy kp nc cb m ) rfl 0 rfl rfl (by decide) (by decide) (by omega) (by omega) (Nat.le_of_ble_eq_true rfl)) [0, 1] rfl rfl ?_
    refine v_ifB_ne X dX8_press_18 (tgt := 27) (by decide) (fun h18 => ?_) (fun h18 => ?_)
    · exact absurd ⟨of_decide_eq_true h10, of_decide_eq_true h18⟩ hno
    · refine v_aload_n X dX8_press_21 rfl 0 rfl ?_
      refine v_iconst X dX8_press_22 (v := nI 1) (by decide) ?_
      refine v_wrI1 X (rn_V X k_X8_refused ml_X8_49 dX8_press_23 (c_X8_refused l E k 0 tr wh g rr q z nb wa wd ev al wl 1 ) rfl 0 rfl rfl (by decide) (by decide) (by omega) (by omega) (Nat.le_of_ble_eq_true rfl)) [0] rfl rfl (ws' := [ob k 8 [.int (nI 0), .int (nI 1), .int (-1), .ref g, va_rf rr, .ref (q 5), .int (nI (z 6)), .int (nI (z 7)), .int (nI (z 8)), .int (nI (z 9)), .int (nI (z 10)), .int nb, .int (nI (z 12)), .int wa, .long wd, .ref (q 15), .ref (q 16), .ref (q 17), .ref (q 18), .int (nI (z 19)), .int (nI (z 20)), .ref (q 21), .long (lN ev), .ref (q 23), .ref (q 24), .int (nI (z 25)), .ref (q 26), .int al, .long wl, .int (nI (z 29))], ob g 7 [.int (nI (cy 0)), .int (nI (cy 1)), .int (nI (cy 2)), .int (nI (cy 3)), .int (nI (cy 4)), .int (nI (cy 5)), .int (nI (cy 6)), .int (nI (cy 7)), .int (nI kp), .int (nI nc), .ref (cb 0), .ref (cb 1), .ref (cb 2), .ref (cb 3), .ref (cb 4), .ref (cb 5), .ref (cb 6), .ref (cb 7), .ref (cb 8), .ref (cb 9), .ref (cb 10), .ref (cb 11)]]) rfl rfl ?_
      exact v_iret X Y dX8_press_26 (wrI_of rfl rfl) (by omega) (by omega)
set_option maxRecDepth 100000 in
set_option maxHeartbeats 4000000 in
theorem c_X8_press_n (l : Launch) (E : Et) (k : Nat) (th : Nat) (tr : Nat) (wh : Int32) (rr : Option Nat) (q : Nat → Nat) (z : Nat → Nat) (nb : Int32) (wa : Int32) (wd : Int64) (ev : Nat) (al : Int32) (wl : Int64) (c : Int32) (m : Int32)  : Ct l E yX8_press cX8_press 4 (some .int) 5 0 0 [.ref k, .int c, .int m] [ob k 8 [.int (nI th), .int (nI tr), .int wh, .null, va_rf rr, .ref (q 5), .int (nI (z 6)), .int (nI (z 7)), .int (nI (z 8)), .int (nI (z 9)), .int (nI (z 10)), .int nb, .int (nI (z 12)), .int wa, .long wd, .ref (q 15), .ref (q 16), .ref (q 17), .ref (q 18), .int (nI (z 19)), .int (nI (z 20)), .ref (q 21), .long (lN ev), .ref (q 23), .ref (q 24), .int (nI (z 25)), .ref (q 26), .int al, .long wl, .int (nI (z 29))]] (wrI [ob k 8 [.int (nI 0), .int (nI 1), .int (-1), .null, va_rf rr, .ref (q 5), .int (nI (z 6)), .int (nI (z 7)), .int (nI (z 8)), .int (nI (z 9)), .int (nI (z 10)), .int nb, .int (nI (z 12)), .int wa, .long wd, .ref (q 15), .ref (q 16), .ref (q 17), .ref (q 18), .int (nI (z 19)), .int (nI (z 20)), .ref (q 21), .long (lN ev), .ref (q 23), .ref (q 24), .int (nI (z 25)), .ref (q 26), .int al, .long wl, .int (nI (z 29))]] (-1)) := by
  refine Ct.intro (by decide +kernel) (Nat.le_of_ble_eq_true rfl) (lv := [(0, .ref k), (1, .int c), (2, .int m)]) rfl ?_
  intro Z X Y
  refine v_aload_n X dX8_press_0 rfl 0 rfl ?_
  refine v_iconst X dX8_press_1 (v := nI 0) (by decide) ?_
  refine v_put X kcX8 fl_X8_43 dX8_press_2 0 rfl (ws' := [ob k 8 [.int (nI 0), .int (nI tr), .int wh, .null, va_rf rr, .ref (q 5), .int (nI (z 6)), .int (nI (z 7)), .int (nI (z 8)), .int (nI (z 9)), .int (nI (z 10)), .int nb, .int (nI (z 12)), .int wa, .long wd, .ref (q 15), .ref (q 16), .ref (q 17), .ref (q 18), .int (nI (z 19)), .int (nI (z 20)), .ref (q 21), .long (lN ev), .ref (q 23), .ref (q 24), .int (nI (z 25)), .ref (q 26), .int al, .long wl, .int (nI (z 29))]]) rfl rfl ?_
  refine v_aload_n X dX8_press_5 rfl 0 rfl ?_
  refine v_iload_n X dX8_press_6 rfl 1 rfl ?_
  refine v_roI1 X (rn_V X k_X8_isClause ml_X8_342 dX8_press_7 (c_X8_isClause_n l E k 0 tr wh rr q z nb wa wd ev al wl c ) rfl 0 rfl rfl (by decide) (by decide) (by omega) (by omega) (Nat.le_of_ble_eq_true rfl)) [0] rfl rfl ?_
  refine v_ifN_eq X dX8_press_10 (tgt := 21) (by decide) (by decide) (fun h10 => ?_) (fun h10 => ?_)
  · refine v_aload_n X dX8_press_21 rfl 0 rfl ?_
    refine v_iconst X dX8_press_22 (v := nI 1) (by decide) ?_
    refine v_wrI1 X (rn_V X k_X8_refused ml_X8_49 dX8_press_23 (c_X8_refused_n l E k 0 tr wh rr q z nb wa wd ev al wl 1 ) rfl 0 rfl rfl (by decide) (by decide) (by omega) (by omega) (Nat.le_of_ble_eq_true rfl)) [0] rfl rfl (ws' := [ob k 8 [.int (nI 0), .int (nI 1), .int (-1), .null, va_rf rr, .ref (q 5), .int (nI (z 6)), .int (nI (z 7)), .int (nI (z 8)), .int (nI (z 9)), .int (nI (z 10)), .int nb, .int (nI (z 12)), .int wa, .long wd, .ref (q 15), .ref (q 16), .ref (q 17), .ref (q 18), .int (nI (z 19)), .int (nI (z 20)), .ref (q 21), .long (lN ev), .ref (q 23), .ref (q 24), .int (nI (z 25)), .ref (q 26), .int al, .long wl, .int (nI (z 29))]]) rfl rfl ?_
    exact v_iret X Y dX8_press_26 (wrI_of rfl rfl) (by omega) (by omega)
  · exfalso; omega
set_option maxRecDepth 100000 in
set_option maxHeartbeats 4000000 in
theorem c_X8_wash (l : Launch) (E : Et) (k : Nat) (th : Nat) (tr : Nat) (wh : Int32) (g : Nat) (rr : Option Nat) (q : Nat → Nat) (z : Nat → Nat) (nb : Int32) (wa : Int32) (wd : Int64) (ev : Nat) (al : Int32) (wl : Int64) (cy : Nat → Nat) (kp : Nat) (nc : Nat) (cb : Nat → Nat) (mn : Nat → Int32) (ink : Nat → Nat) (t : Nat) (dd : Nat) (ac : Nat) (pp : Nat → Pv) (c : Nat) (hcl : cy 5 ≤ 8) (hink : ∀ c, ink c ≤ 40) (hac : ac ≤ 16) (hc : c < cy 5) (hne : ¬ ink c = 0) : Ct l E yX8_wash cX8_wash 2 (some .boolean) 5 0 0 [.ref k, .int (nI c)] [ob k 8 [.int (nI th), .int (nI tr), .int wh, .ref g, va_rf rr, .ref (q 5), .int (nI (z 6)), .int (nI (z 7)), .int (nI (z 8)), .int (nI (z 9)), .int (nI (z 10)), .int nb, .int (nI (z 12)), .int wa, .long wd, .ref (q 15), .ref (q 16), .ref (q 17), .ref (q 18), .int (nI ac), .int (nI (z 20)), .ref (q 21), .long (lN ev), .ref (q 23), .ref (q 24), .int (nI (z 25)), .ref (q 26), .int al, .long wl, .int (nI (z 29))], ob g 7 [.int (nI (cy 0)), .int (nI (cy 1)), .int (nI (cy 2)), .int (nI (cy 3)), .int (nI (cy 4)), .int (nI (cy 5)), .int (nI (cy 6)), .int (nI (cy 7)), .int (nI kp), .int (nI nc), .ref (cb 0), .ref (cb 1), .ref (cb 2), .ref (cb 3), .ref (cb 4), .ref (cb 5), .ref (cb 6), .ref (cb 7), .ref (cb 8), .ref (cb 9), .ref (cb 10), .ref (cb 11)], aI E (q 15) 25 (xF mn ink t dd), aI E (q 17) 400 (rwF pp)] (wrI [ob k 8 [.int (nI 0), .int (nI 0), .int (-1), .ref g, va_rf rr, .ref (q 5), .int (nI (z 6)), .int (nI (z 7)), .int (nI (z 8)), .int (nI (z 9)), .int (nI (z 10)), .int nb, .int (nI (z 12)), .int wa, .long wd, .ref (q 15), .ref (q 16), .ref (q 17), .ref (q 18), .int (nI (kaA ac)), .int (nI (z 20)), .ref (q 21), .long (lN ev), .ref (q 23), .ref (q 24), .int (nI (z 25)), .ref (q 26), .int al, .long wl, .int (nI (z 29))], ob g 7 [.int (nI (cy 0)), .int (nI (cy 1)), .int (nI (cy 2)), .int (nI (cy 3)), .int (nI (cy 4)), .int (nI (cy 5)), .int (nI (cy 6)), .int (nI (cy 7)), .int (nI kp), .int (nI nc), .ref (cb 0), .ref (cb 1), .ref (cb 2), .ref (cb 3), .ref (cb 4), .ref (cb 5), .ref (cb 6), .ref (cb 7), .ref (cb 8), .ref (cb 9), .ref (cb 10), .ref (cb 11)], aI E (q 15) 25 (xF mn (upN ink c 0) t dd), aI E (q 17) 400 (rwF (rmP pp ac (ink, mn, t, dd)))] (nI 1)) := by
  refine Ct.intro (by decide +kernel) (Nat.le_of_ble_eq_true rfl) (lv := [(0, .ref k), (1, .int (nI c))]) rfl ?_
  intro Z X Y
  refine v_aload_n X dX8_wash_0 rfl 0 rfl ?_
  refine v_iconst X dX8_wash_1 (v := nI 0) (by decide) ?_
  refine v_put X kcX8 fl_X8_43 dX8_wash_2 0 rfl (ws' := [ob k 8 [.int (nI 0), .int (nI tr), .int wh, .ref g, va_rf rr, .ref (q 5), .int (nI (z 6)), .int (nI (z 7)), .int (nI (z 8)), .int (nI (z 9)), .int (nI (z 10)), .int nb, .int (nI (z 12)), .int wa, .long wd, .ref (q 15), .ref (q 16), .ref (q 17), .ref (q 18), .int (nI ac), .int (nI (z 20)), .ref (q 21), .long (lN ev), .ref (q 23), .ref (q 24), .int (nI (z 25)), .ref (q 26), .int al, .long wl, .int (nI (z 29))], ob g 7 [.int (nI (cy 0)), .int (nI (cy 1)), .int (nI (cy 2)), .int (nI (cy 3)), .int (nI (cy 4)), .int (nI (cy 5)), .int (nI (cy 6)), .int (nI (cy 7)), .int (nI kp), .int (nI nc), .ref (cb 0), .ref (cb 1), .ref (cb 2), .ref (cb 3), .ref (cb 4), .ref (cb 5), .ref (cb 6), .ref (cb 7), .ref (cb 8), .ref (cb 9), .ref (cb 10), .ref (cb 11)], aI E (q 15) 25 (xF mn ink t dd), aI E (q 17) 400 (rwF pp)]) rfl rfl ?_
  refine v_aload_n X dX8_wash_5 rfl 0 rfl ?_
  refine v_iload_n X dX8_wash_6 rfl 1 rfl ?_
  refine v_roI1 X (rn_V X k_X8_isClause ml_X8_342 dX8_wash_7 (c_X8_isClause l E k 0 tr wh g rr q (upN z 19 ac) nb wa wd ev al wl cy kp nc cb (nI c) ) rfl 0 rfl rfl (by decide) (by decide) (by omega) (by omega) (Nat.le_of_ble_eq_true rfl)) [0, 1] rfl rfl ?_
  refine v_ifB_ne X dX8_wash_10 (tgt := 19) (by decide) (fun h10 => ?_) (fun h10 => ?_)
  · refine v_aload_n X dX8_wash_19 rfl 0 rfl ?_
    refine v_get X kcX8 fl_X8_17 dX8_wash_20 0 rfl rfl ?_
    refine v_bipush X dX8_wash_23 (v := nI 8) (by decide) ?_
    refine v_iload_n X dX8_wash_25 rfl 1 rfl ?_
    refine v_iadd X dX8_wash_26 ?_
    refine v_eqi (x' := nI (8 + c)) (nI_add _ _) ?_
    refine v_iald X dX8_wash_27 2 rfl (by omega) (by decide) ?_
    refine v_eqi (x' := nI (ink c)) (xF_i (by omega)) ?_
    refine v_ifN_ne X dX8_wash_28 (tgt := 37) (by decide) (Nat.lt_of_le_of_lt (hink _) (by decide)) (fun h28 => ?_) (fun h28 => ?_)
    · refine v_aload_n X dX8_wash_37 rfl 0 rfl ?_
      refine v_wrV1 X (rn_V X k_X8_remembers ml_X8_469 dX8_wash_38 (c_X8_remembers l E k 0 tr wh g rr q z nb wa wd ev al wl mn ink t dd ac pp (by first | assumption | omega)) rfl 0 rfl rfl (by decide) (by decide) (by omega) (by omega) (Nat.le_of_ble_eq_true rfl)) [0, 2, 3] rfl rfl (ws' := [ob k 8 [.int (nI 0), .int (nI tr), .int wh, .ref g, va_rf rr, .ref (q 5), .int (nI (z 6)), .int (nI (z 7)), .int (nI (z 8)), .int (nI (z 9)), .int (nI (z 10)), .int nb, .int (nI (z 12)), .int wa, .long wd, .ref (q 15), .ref (q 16), .ref (q 17), .ref (q 18), .int (nI (kaA ac)), .int (nI (z 20)), .ref (q 21), .long (lN ev), .ref (q 23), .ref (q 24), .int (nI (z 25)), .ref (q 26), .int al, .long wl, .int (nI (z 29))], ob g 7 [.int (nI (cy 0)), .int (nI (cy 1)), .int (nI (cy 2)), .int (nI (cy 3)), .int (nI (cy 4)), .int (nI (cy 5)), .int (nI (cy 6)), .int (nI (cy 7)), .int (nI kp), .int (nI nc), .ref (cb 0), .ref (cb 1), .ref (cb 2), .ref (cb 3), .ref (cb 4), .ref (cb 5), .ref (cb 6), .ref (cb 7), .ref (cb 8), .ref (cb 9), .ref (cb 10), .ref (cb 11)], aI E (q 15) 25 (xF mn ink t dd), aI E (q 17) 400 (rwF (rmP pp ac (ink, mn, t, dd)))]) rfl rfl ?_
      refine v_aload_n X dX8_wash_41 rfl 0 rfl ?_
      refine v_get X kcX8 fl_X8_17 dX8_wash_42 0 rfl rfl ?_
      refine v_bipush X dX8_wash_45 (v := nI 8) (by decide) ?_
      refine v_iload_n X dX8_wash_47 rfl 1 rfl ?_
      refine v_iadd X dX8_wash_48 ?_
      refine v_eqi (x' := nI (8 + c)) (nI_add _ _) ?_
      refine v_iconst X dX8_wash_49 (v := nI 0) (by decide) ?_
      refine v_iast X dX8_wash_50 2 rfl (by omega) (by decide) (ws' := [ob k 8 [.int (nI 0), .int (nI tr), .int wh, .ref g, va_rf rr, .ref (q 5), .int (nI (z 6)), .int (nI (z 7)), .int (nI (z 8)), .int (nI (z 9)), .int (nI (z 10)), .int nb, .int (nI (z 12)), .int wa, .long wd, .ref (q 15), .ref (q 16), .ref (q 17), .ref (q 18), .int (nI (kaA ac)), .int (nI (z 20)), .ref (q 21), .long (lN ev), .ref (q 23), .ref (q 24), .int (nI (z 25)), .ref (q 26), .int al, .long wl, .int (nI (z 29))], ob g 7 [.int (nI (cy 0)), .int (nI (cy 1)), .int (nI (cy 2)), .int (nI (cy 3)), .int (nI (cy 4)), .int (nI (cy 5)), .int (nI (cy 6)), .int (nI (cy 7)), .int (nI kp), .int (nI nc), .ref (cb 0), .ref (cb 1), .ref (cb 2), .ref (cb 3), .ref (cb 4), .ref (cb 5), .ref (cb 6), .ref (cb 7), .ref (cb 8), .ref (cb 9), .ref (cb 10), .ref (cb 11)], aI E (q 15) 25 (upd (xF mn ink t dd) (8 + c) (nI 0)), aI E (q 17) 400 (rwF (rmP pp ac (ink, mn, t, dd)))]) rfl ?_
      refine V.arI 2 rfl (g' := xF mn (upN ink c 0) t dd) (fun j _ => by rw [xF_upI (by omega)]) (ws' := [ob k 8 [.int (nI 0), .int (nI tr), .int wh, .ref g, va_rf rr, .ref (q 5), .int (nI (z 6)), .int (nI (z 7)), .int (nI (z 8)), .int (nI (z 9)), .int (nI (z 10)), .int nb, .int (nI (z 12)), .int wa, .long wd, .ref (q 15), .ref (q 16), .ref (q 17), .ref (q 18), .int (nI (kaA ac)), .int (nI (z 20)), .ref (q 21), .long (lN ev), .ref (q 23), .ref (q 24), .int (nI (z 25)), .ref (q 26), .int al, .long wl, .int (nI (z 29))], ob g 7 [.int (nI (cy 0)), .int (nI (cy 1)), .int (nI (cy 2)), .int (nI (cy 3)), .int (nI (cy 4)), .int (nI (cy 5)), .int (nI (cy 6)), .int (nI (cy 7)), .int (nI kp), .int (nI nc), .ref (cb 0), .ref (cb 1), .ref (cb 2), .ref (cb 3), .ref (cb 4), .ref (cb 5), .ref (cb 6), .ref (cb 7), .ref (cb 8), .ref (cb 9), .ref (cb 10), .ref (cb 11)], aI E (q 15) 25 (xF mn (upN ink c 0) t dd), aI E (q 17) 400 (rwF (rmP pp ac (ink, mn, t, dd)))]) rfl ?_
      refine v_aload_n X dX8_wash_51 rfl 0 rfl ?_
      refine v_wrI1 X (rn_V X k_X8_granted ml_X8_478 dX8_wash_52 (c_X8_granted l E k 0 tr wh g rr q (upN z 19 (kaA ac)) nb wa wd ev al wl ) rfl 0 rfl rfl (by decide) (by decide) (by omega) (by omega) (Nat.le_of_ble_eq_true rfl)) [0] rfl rfl (ws' := [ob k 8 [.int (nI 0), .int (nI 0), .int (-1), .ref g, va_rf rr, .ref (q 5), .int (nI (z 6)), .int (nI (z 7)), .int (nI (z 8)), .int (nI (z 9)), .int (nI (z 10)), .int nb, .int (nI (z 12)), .int wa, .long wd, .ref (q 15), .ref (q 16), .ref (q 17), .ref (q 18), .int (nI (kaA ac)), .int (nI (z 20)), .ref (q 21), .long (lN ev), .ref (q 23), .ref (q 24), .int (nI (z 25)), .ref (q 26), .int al, .long wl, .int (nI (z 29))], ob g 7 [.int (nI (cy 0)), .int (nI (cy 1)), .int (nI (cy 2)), .int (nI (cy 3)), .int (nI (cy 4)), .int (nI (cy 5)), .int (nI (cy 6)), .int (nI (cy 7)), .int (nI kp), .int (nI nc), .ref (cb 0), .ref (cb 1), .ref (cb 2), .ref (cb 3), .ref (cb 4), .ref (cb 5), .ref (cb 6), .ref (cb 7), .ref (cb 8), .ref (cb 9), .ref (cb 10), .ref (cb 11)], aI E (q 15) 25 (xF mn (upN ink c 0) t dd), aI E (q 17) 400 (rwF (rmP pp ac (ink, mn, t, dd)))]) rfl rfl ?_
      exact v_zret X Y dX8_wash_55 (by decide) (wrI_of rfl rfl) (by omega) (by omega)
    · exact absurd h28 hne
  · exact absurd (okM_of hc (by omega)) (of_decide_eq_false h10)
set_option maxRecDepth 100000 in
set_option maxHeartbeats 4000000 in
theorem c_X8_wash_no1 (l : Launch) (E : Et) (k : Nat) (th : Nat) (tr : Nat) (wh : Int32) (g : Nat) (rr : Option Nat) (q : Nat → Nat) (z : Nat → Nat) (nb : Int32) (wa : Int32) (wd : Int64) (ev : Nat) (al : Int32) (wl : Int64) (cy : Nat → Nat) (kp : Nat) (nc : Nat) (cb : Nat → Nat) (c : Int32) (hno : ¬ okM c (cy 5)) : Ct l E yX8_wash cX8_wash 2 (some .boolean) 5 0 0 [.ref k, .int c] [ob k 8 [.int (nI th), .int (nI tr), .int wh, .ref g, va_rf rr, .ref (q 5), .int (nI (z 6)), .int (nI (z 7)), .int (nI (z 8)), .int (nI (z 9)), .int (nI (z 10)), .int nb, .int (nI (z 12)), .int wa, .long wd, .ref (q 15), .ref (q 16), .ref (q 17), .ref (q 18), .int (nI (z 19)), .int (nI (z 20)), .ref (q 21), .long (lN ev), .ref (q 23), .ref (q 24), .int (nI (z 25)), .ref (q 26), .int al, .long wl, .int (nI (z 29))], ob g 7 [.int (nI (cy 0)), .int (nI (cy 1)), .int (nI (cy 2)), .int (nI (cy 3)), .int (nI (cy 4)), .int (nI (cy 5)), .int (nI (cy 6)), .int (nI (cy 7)), .int (nI kp), .int (nI nc), .ref (cb 0), .ref (cb 1), .ref (cb 2), .ref (cb 3), .ref (cb 4), .ref (cb 5), .ref (cb 6), .ref (cb 7), .ref (cb 8), .ref (cb 9), .ref (cb 10), .ref (cb 11)]] (wrI [ob k 8 [.int (nI 0), .int (nI 1), .int (-1), .ref g, va_rf rr, .ref (q 5), .int (nI (z 6)), .int (nI (z 7)), .int (nI (z 8)), .int (nI (z 9)), .int (nI (z 10)), .int nb, .int (nI (z 12)), .int wa, .long wd, .ref (q 15), .ref (q 16), .ref (q 17), .ref (q 18), .int (nI (z 19)), .int (nI (z 20)), .ref (q 21), .long (lN ev), .ref (q 23), .ref (q 24), .int (nI (z 25)), .ref (q 26), .int al, .long wl, .int (nI (z 29))], ob g 7 [.int (nI (cy 0)), .int (nI (cy 1)), .int (nI (cy 2)), .int (nI (cy 3)), .int (nI (cy 4)), .int (nI (cy 5)), .int (nI (cy 6)), .int (nI (cy 7)), .int (nI kp), .int (nI nc), .ref (cb 0), .ref (cb 1), .ref (cb 2), .ref (cb 3), .ref (cb 4), .ref (cb 5), .ref (cb 6), .ref (cb 7), .ref (cb 8), .ref (cb 9), .ref (cb 10), .ref (cb 11)]] (nI 0)) := by
  refine Ct.intro (by decide +kernel) (Nat.le_of_ble_eq_true rfl) (lv := [(0, .ref k), (1, .int c)]) rfl ?_
  intro Z X Y
  refine v_aload_n X dX8_wash_0 rfl 0 rfl ?_
  refine v_iconst X dX8_wash_1 (v := nI 0) (by decide) ?_
  refine v_put X kcX8 fl_X8_43 dX8_wash_2 0 rfl (ws' := [ob k 8 [.int (nI 0), .int (nI tr), .int wh, .ref g, va_rf rr, .ref (q 5), .int (nI (z 6)), .int (nI (z 7)), .int (nI (z 8)), .int (nI (z 9)), .int (nI (z 10)), .int nb, .int (nI (z 12)), .int wa, .long wd, .ref (q 15), .ref (q 16), .ref (q 17), .ref (q 18), .int (nI (z 19)), .int (nI (z 20)), .ref (q 21), .long (lN ev), .ref (q 23), .ref (q 24), .int (nI (z 25)), .ref (q 26), .int al, .long wl, .int (nI (z 29))], ob g 7 [.int (nI (cy 0)), .int (nI (cy 1)), .int (nI (cy 2)), .int (nI (cy 3)), .int (nI (cy 4)), .int (nI (cy 5)), .int (nI (cy 6)), .int (nI (cy 7)), .int (nI kp), .int (nI nc), .ref (cb 0), .ref (cb 1), .ref (cb 2), .ref (cb 3), .ref (cb 4), .ref (cb 5), .ref (cb 6), .ref (cb 7), .ref (cb 8), .ref (cb 9), .ref (cb 10), .ref (cb 11)]]) rfl rfl ?_
  refine v_aload_n X dX8_wash_5 rfl 0 rfl ?_
  refine v_iload_n X dX8_wash_6 rfl 1 rfl ?_
  refine v_roI1 X (rn_V X k_X8_isClause ml_X8_342 dX8_wash_7 (c_X8_isClause l E k 0 tr wh g rr q z nb wa wd ev al wl cy kp nc cb c ) rfl 0 rfl rfl (by decide) (by decide) (by omega) (by omega) (Nat.le_of_ble_eq_true rfl)) [0, 1] rfl rfl ?_
  refine v_ifB_ne X dX8_wash_10 (tgt := 19) (by decide) (fun h10 => ?_) (fun h10 => ?_)
  · exact absurd (of_decide_eq_true h10) hno
  · refine v_aload_n X dX8_wash_13 rfl 0 rfl ?_
    refine v_iconst X dX8_wash_14 (v := nI 1) (by decide) ?_
    refine v_wrI1 X (rn_V X k_X8_denied ml_X8_475 dX8_wash_15 (c_X8_denied l E k 0 tr wh g rr q z nb wa wd ev al wl 1 ) rfl 0 rfl rfl (by decide) (by decide) (by omega) (by omega) (Nat.le_of_ble_eq_true rfl)) [0] rfl rfl (ws' := [ob k 8 [.int (nI 0), .int (nI 1), .int (-1), .ref g, va_rf rr, .ref (q 5), .int (nI (z 6)), .int (nI (z 7)), .int (nI (z 8)), .int (nI (z 9)), .int (nI (z 10)), .int nb, .int (nI (z 12)), .int wa, .long wd, .ref (q 15), .ref (q 16), .ref (q 17), .ref (q 18), .int (nI (z 19)), .int (nI (z 20)), .ref (q 21), .long (lN ev), .ref (q 23), .ref (q 24), .int (nI (z 25)), .ref (q 26), .int al, .long wl, .int (nI (z 29))], ob g 7 [.int (nI (cy 0)), .int (nI (cy 1)), .int (nI (cy 2)), .int (nI (cy 3)), .int (nI (cy 4)), .int (nI (cy 5)), .int (nI (cy 6)), .int (nI (cy 7)), .int (nI kp), .int (nI nc), .ref (cb 0), .ref (cb 1), .ref (cb 2), .ref (cb 3), .ref (cb 4), .ref (cb 5), .ref (cb 6), .ref (cb 7), .ref (cb 8), .ref (cb 9), .ref (cb 10), .ref (cb 11)]]) rfl rfl ?_
    exact v_zret X Y dX8_wash_18 (by decide) (wrI_of rfl rfl) (by omega) (by omega)
set_option maxRecDepth 100000 in
set_option maxHeartbeats 4000000 in
theorem c_X8_wash_no5 (l : Launch) (E : Et) (k : Nat) (th : Nat) (tr : Nat) (wh : Int32) (g : Nat) (rr : Option Nat) (q : Nat → Nat) (z : Nat → Nat) (nb : Int32) (wa : Int32) (wd : Int64) (ev : Nat) (al : Int32) (wl : Int64) (cy : Nat → Nat) (kp : Nat) (nc : Nat) (cb : Nat → Nat) (mn : Nat → Int32) (ink : Nat → Nat) (t : Nat) (dd : Nat) (c : Nat) (hcl : cy 5 ≤ 8) (hc : c < cy 5) (hne : ink c = 0) : Ct l E yX8_wash cX8_wash 2 (some .boolean) 5 0 0 [.ref k, .int (nI c)] [ob k 8 [.int (nI th), .int (nI tr), .int wh, .ref g, va_rf rr, .ref (q 5), .int (nI (z 6)), .int (nI (z 7)), .int (nI (z 8)), .int (nI (z 9)), .int (nI (z 10)), .int nb, .int (nI (z 12)), .int wa, .long wd, .ref (q 15), .ref (q 16), .ref (q 17), .ref (q 18), .int (nI (z 19)), .int (nI (z 20)), .ref (q 21), .long (lN ev), .ref (q 23), .ref (q 24), .int (nI (z 25)), .ref (q 26), .int al, .long wl, .int (nI (z 29))], ob g 7 [.int (nI (cy 0)), .int (nI (cy 1)), .int (nI (cy 2)), .int (nI (cy 3)), .int (nI (cy 4)), .int (nI (cy 5)), .int (nI (cy 6)), .int (nI (cy 7)), .int (nI kp), .int (nI nc), .ref (cb 0), .ref (cb 1), .ref (cb 2), .ref (cb 3), .ref (cb 4), .ref (cb 5), .ref (cb 6), .ref (cb 7), .ref (cb 8), .ref (cb 9), .ref (cb 10), .ref (cb 11)], aI E (q 15) 25 (xF mn ink t dd)] (wrI [ob k 8 [.int (nI 0), .int (nI 5), .int (-1), .ref g, va_rf rr, .ref (q 5), .int (nI (z 6)), .int (nI (z 7)), .int (nI (z 8)), .int (nI (z 9)), .int (nI (z 10)), .int nb, .int (nI (z 12)), .int wa, .long wd, .ref (q 15), .ref (q 16), .ref (q 17), .ref (q 18), .int (nI (z 19)), .int (nI (z 20)), .ref (q 21), .long (lN ev), .ref (q 23), .ref (q 24), .int (nI (z 25)), .ref (q 26), .int al, .long wl, .int (nI (z 29))], ob g 7 [.int (nI (cy 0)), .int (nI (cy 1)), .int (nI (cy 2)), .int (nI (cy 3)), .int (nI (cy 4)), .int (nI (cy 5)), .int (nI (cy 6)), .int (nI (cy 7)), .int (nI kp), .int (nI nc), .ref (cb 0), .ref (cb 1), .ref (cb 2), .ref (cb 3), .ref (cb 4), .ref (cb 5), .ref (cb 6), .ref (cb 7), .ref (cb 8), .ref (cb 9), .ref (cb 10), .ref (cb 11)], aI E (q 15) 25 (xF mn ink t dd)] (nI 0)) := by
  refine Ct.intro (by decide +kernel) (Nat.le_of_ble_eq_true rfl) (lv := [(0, .ref k), (1, .int (nI c))]) rfl ?_
  intro Z X Y
  refine v_aload_n X dX8_wash_0 rfl 0 rfl ?_
  refine v_iconst X dX8_wash_1 (v := nI 0) (by decide) ?_
  refine v_put X kcX8 fl_X8_43 dX8_wash_2 0 rfl (ws' := [ob k 8 [.int (nI 0), .int (nI tr), .int wh, .ref g, va_rf rr, .ref (q 5), .int (nI (z 6)), .int (nI (z 7)), .int (nI (z 8)), .int (nI (z 9)), .int (nI (z 10)), .int nb, .int (nI (z 12)), .int wa, .long wd, .ref (q 15), .ref (q 16), .ref (q 17), .ref (q 18), .int (nI (z 19)), .int (nI (z 20)), .ref (q 21), .long (lN ev), .ref (q 23), .ref (q 24), .int (nI (z 25)), .ref (q 26), .int al, .long wl, .int (nI (z 29))], ob g 7 [.int (nI (cy 0)), .int (nI (cy 1)), .int (nI (cy 2)), .int (nI (cy 3)), .int (nI (cy 4)), .int (nI (cy 5)), .int (nI (cy 6)), .int (nI (cy 7)), .int (nI kp), .int (nI nc), .ref (cb 0), .ref (cb 1), .ref (cb 2), .ref (cb 3), .ref (cb 4), .ref (cb 5), .ref (cb 6), .ref (cb 7), .ref (cb 8), .ref (cb 9), .ref (cb 10), .ref (cb 11)], aI E (q 15) 25 (xF mn ink t dd)]) rfl rfl ?_
  refine v_aload_n X dX8_wash_5 rfl 0 rfl ?_
  refine v_iload_n X dX8_wash_6 rfl 1 rfl ?_
  refine v_roI1 X (rn_V X k_X8_isClause ml_X8_342 dX8_wash_7 (c_X8_isClause l E k 0 tr wh g rr q z nb wa wd ev al wl cy kp nc cb (nI c) ) rfl 0 rfl rfl (by decide) (by decide) (by omega) (by omega) (Nat.le_of_ble_eq_true rfl)) [0, 1] rfl rfl ?_
  refine v_ifB_ne X dX8_wash_10 (tgt := 19) (by decide) (fun h10 => ?_) (fun h10 => ?_)
  · refine v_aload_n X dX8_wash_19 rfl 0 rfl ?_
    refine v_get X kcX8 fl_X8_17 dX8_wash_20 0 rfl rfl ?_
    refine v_bipush X dX8_wash_23 (v := nI 8) (by decide) ?_
    refine v_iload_n X dX8_wash_25 rfl 1 rfl ?_
    refine v_iadd X dX8_wash_26 ?_
    refine v_eqi (x' := nI (8 + c)) (nI_add _ _) ?_
    refine v_iald X dX8_wash_27 2 rfl (by omega) (by decide) ?_
    refine v_eqi (x' := nI (ink c)) (xF_i (by omega)) ?_
    refine v_ifN_ne X dX8_wash_28 (tgt := 37) (by decide) (by omega) (fun h28 => ?_) (fun h28 => ?_)
    · exact absurd hne h28
    · refine v_aload_n X dX8_wash_31 rfl 0 rfl ?_
      refine v_iconst X dX8_wash_32 (v := nI 5) (by decide) ?_
      refine v_wrI1 X (rn_V X k_X8_denied ml_X8_475 dX8_wash_33 (c_X8_denied l E k 0 tr wh g rr q z nb wa wd ev al wl 5 ) rfl 0 rfl rfl (by decide) (by decide) (by omega) (by omega) (Nat.le_of_ble_eq_true rfl)) [0] rfl rfl (ws' := [ob k 8 [.int (nI 0), .int (nI 5), .int (-1), .ref g, va_rf rr, .ref (q 5), .int (nI (z 6)), .int (nI (z 7)), .int (nI (z 8)), .int (nI (z 9)), .int (nI (z 10)), .int nb, .int (nI (z 12)), .int wa, .long wd, .ref (q 15), .ref (q 16), .ref (q 17), .ref (q 18), .int (nI (z 19)), .int (nI (z 20)), .ref (q 21), .long (lN ev), .ref (q 23), .ref (q 24), .int (nI (z 25)), .ref (q 26), .int al, .long wl, .int (nI (z 29))], ob g 7 [.int (nI (cy 0)), .int (nI (cy 1)), .int (nI (cy 2)), .int (nI (cy 3)), .int (nI (cy 4)), .int (nI (cy 5)), .int (nI (cy 6)), .int (nI (cy 7)), .int (nI kp), .int (nI nc), .ref (cb 0), .ref (cb 1), .ref (cb 2), .ref (cb 3), .ref (cb 4), .ref (cb 5), .ref (cb 6), .ref (cb 7), .ref (cb 8), .ref (cb 9), .ref (cb 10), .ref (cb 11)], aI E (q 15) 25 (xF mn ink t dd)]) rfl rfl ?_
      exact v_zret X Y dX8_wash_36 (by decide) (wrI_of rfl rfl) (by omega) (by omega)
  · exact absurd (okM_of hc (by omega)) (of_decide_eq_false h10)
set_option maxRecDepth 100000 in
set_option maxHeartbeats 4000000 in
theorem c_X8_wash_n (l : Launch) (E : Et) (k : Nat) (th : Nat) (tr : Nat) (wh : Int32) (rr : Option Nat) (q : Nat → Nat) (z : Nat → Nat) (nb : Int32) (wa : Int32) (wd : Int64) (ev : Nat) (al : Int32) (wl : Int64) (c : Int32)  : Ct l E yX8_wash cX8_wash 2 (some .boolean) 5 0 0 [.ref k, .int c] [ob k 8 [.int (nI th), .int (nI tr), .int wh, .null, va_rf rr, .ref (q 5), .int (nI (z 6)), .int (nI (z 7)), .int (nI (z 8)), .int (nI (z 9)), .int (nI (z 10)), .int nb, .int (nI (z 12)), .int wa, .long wd, .ref (q 15), .ref (q 16), .ref (q 17), .ref (q 18), .int (nI (z 19)), .int (nI (z 20)), .ref (q 21), .long (lN ev), .ref (q 23), .ref (q 24), .int (nI (z 25)), .ref (q 26), .int al, .long wl, .int (nI (z 29))]] (wrI [ob k 8 [.int (nI 0), .int (nI 1), .int (-1), .null, va_rf rr, .ref (q 5), .int (nI (z 6)), .int (nI (z 7)), .int (nI (z 8)), .int (nI (z 9)), .int (nI (z 10)), .int nb, .int (nI (z 12)), .int wa, .long wd, .ref (q 15), .ref (q 16), .ref (q 17), .ref (q 18), .int (nI (z 19)), .int (nI (z 20)), .ref (q 21), .long (lN ev), .ref (q 23), .ref (q 24), .int (nI (z 25)), .ref (q 26), .int al, .long wl, .int (nI (z 29))]] (nI 0)) := by
  refine Ct.intro (by decide +kernel) (Nat.le_of_ble_eq_true rfl) (lv := [(0, .ref k), (1, .int c)]) rfl ?_
  intro Z X Y
  refine v_aload_n X dX8_wash_0 rfl 0 rfl ?_
  refine v_iconst X dX8_wash_1 (v := nI 0) (by decide) ?_
  refine v_put X kcX8 fl_X8_43 dX8_wash_2 0 rfl (ws' := [ob k 8 [.int (nI 0), .int (nI tr), .int wh, .null, va_rf rr, .ref (q 5), .int (nI (z 6)), .int (nI (z 7)), .int (nI (z 8)), .int (nI (z 9)), .int (nI (z 10)), .int nb, .int (nI (z 12)), .int wa, .long wd, .ref (q 15), .ref (q 16), .ref (q 17), .ref (q 18), .int (nI (z 19)), .int (nI (z 20)), .ref (q 21), .long (lN ev), .ref (q 23), .ref (q 24), .int (nI (z 25)), .ref (q 26), .int al, .long wl, .int (nI (z 29))]]) rfl rfl ?_
  refine v_aload_n X dX8_wash_5 rfl 0 rfl ?_
  refine v_iload_n X dX8_wash_6 rfl 1 rfl ?_
  refine v_roI1 X (rn_V X k_X8_isClause ml_X8_342 dX8_wash_7 (c_X8_isClause_n l E k 0 tr wh rr q z nb wa wd ev al wl c ) rfl 0 rfl rfl (by decide) (by decide) (by omega) (by omega) (Nat.le_of_ble_eq_true rfl)) [0] rfl rfl ?_
  refine v_ifN_ne X dX8_wash_10 (tgt := 19) (by decide) (by decide) (fun h10 => ?_) (fun h10 => ?_)
  · exfalso; omega
  · refine v_aload_n X dX8_wash_13 rfl 0 rfl ?_
    refine v_iconst X dX8_wash_14 (v := nI 1) (by decide) ?_
    refine v_wrI1 X (rn_V X k_X8_denied ml_X8_475 dX8_wash_15 (c_X8_denied_n l E k 0 tr wh rr q z nb wa wd ev al wl 1 ) rfl 0 rfl rfl (by decide) (by decide) (by omega) (by omega) (Nat.le_of_ble_eq_true rfl)) [0] rfl rfl (ws' := [ob k 8 [.int (nI 0), .int (nI 1), .int (-1), .null, va_rf rr, .ref (q 5), .int (nI (z 6)), .int (nI (z 7)), .int (nI (z 8)), .int (nI (z 9)), .int (nI (z 10)), .int nb, .int (nI (z 12)), .int wa, .long wd, .ref (q 15), .ref (q 16), .ref (q 17), .ref (q 18), .int (nI (z 19)), .int (nI (z 20)), .ref (q 21), .long (lN ev), .ref (q 23), .ref (q 24), .int (nI (z 25)), .ref (q 26), .int al, .long wl, .int (nI (z 29))]]) rfl rfl ?_
    exact v_zret X Y dX8_wash_18 (by decide) (wrI_of rfl rfl) (by omega) (by omega)
set_option maxRecDepth 100000 in
set_option maxHeartbeats 4000000 in
theorem c_X8_turn (l : Launch) (E : Et) (k : Nat) (th : Nat) (tr : Nat) (wh : Int32) (g : Nat) (rr : Option Nat) (q : Nat → Nat) (z : Nat → Nat) (nb : Int32) (wa : Int32) (wd : Int64) (ev : Nat) (al : Int32) (wl : Int64) (cy : Nat → Nat) (kp : Nat) (nc : Nat) (cb : Nat → Nat) (mn : Nat → Int32) (ink : Nat → Nat) (t : Nat) (dd : Nat) (ac : Nat) (pp : Nat → Pv) (c : Nat) (hcl : cy 5 ≤ 8) (hac : ac ≤ 16) (hc : c < cy 5) : Ct l E yX8_turn cX8_turn 2 (some .int) 5 0 0 [.ref k, .int (nI c)] [ob k 8 [.int (nI th), .int (nI tr), .int wh, .ref g, va_rf rr, .ref (q 5), .int (nI (z 6)), .int (nI (z 7)), .int (nI (z 8)), .int (nI (z 9)), .int (nI (z 10)), .int nb, .int (nI (z 12)), .int wa, .long wd, .ref (q 15), .ref (q 16), .ref (q 17), .ref (q 18), .int (nI ac), .int (nI (z 20)), .ref (q 21), .long (lN ev), .ref (q 23), .ref (q 24), .int (nI (z 25)), .ref (q 26), .int al, .long wl, .int (nI (z 29))], ob g 7 [.int (nI (cy 0)), .int (nI (cy 1)), .int (nI (cy 2)), .int (nI (cy 3)), .int (nI (cy 4)), .int (nI (cy 5)), .int (nI (cy 6)), .int (nI (cy 7)), .int (nI kp), .int (nI nc), .ref (cb 0), .ref (cb 1), .ref (cb 2), .ref (cb 3), .ref (cb 4), .ref (cb 5), .ref (cb 6), .ref (cb 7), .ref (cb 8), .ref (cb 9), .ref (cb 10), .ref (cb 11)], aI E (q 15) 25 (xF mn ink t dd), aI E (q 17) 400 (rwF pp)] (wrI [ob k 8 [.int (nI 0), .int (nI 0), .int (-1), .ref g, va_rf rr, .ref (q 5), .int (nI (z 6)), .int (nI (z 7)), .int (nI (z 8)), .int (nI (z 9)), .int (nI (z 10)), .int nb, .int (nI (z 12)), .int wa, .long wd, .ref (q 15), .ref (q 16), .ref (q 17), .ref (q 18), .int (nI (kaA ac)), .int (nI (z 20)), .ref (q 21), .long (lN ev), .ref (q 23), .ref (q 24), .int (nI (z 25)), .ref (q 26), .int al, .long wl, .int (nI (z 29))], ob g 7 [.int (nI (cy 0)), .int (nI (cy 1)), .int (nI (cy 2)), .int (nI (cy 3)), .int (nI (cy 4)), .int (nI (cy 5)), .int (nI (cy 6)), .int (nI (cy 7)), .int (nI kp), .int (nI nc), .ref (cb 0), .ref (cb 1), .ref (cb 2), .ref (cb 3), .ref (cb 4), .ref (cb 5), .ref (cb 6), .ref (cb 7), .ref (cb 8), .ref (cb 9), .ref (cb 10), .ref (cb 11)], aI E (q 15) 25 (xF mn ink (t ^^^ 2 ^ c) dd), aI E (q 17) 400 (rwF (rmP pp ac (ink, mn, t, dd)))] (nI (((t ^^^ 2 ^ c).testBit c).toNat))) := by
  refine Ct.intro (by decide +kernel) (Nat.le_of_ble_eq_true rfl) (lv := [(0, .ref k), (1, .int (nI c))]) rfl ?_
  intro Z X Y
  refine v_aload_n X dX8_turn_0 rfl 0 rfl ?_
  refine v_iconst X dX8_turn_1 (v := nI 0) (by decide) ?_
  refine v_put X kcX8 fl_X8_43 dX8_turn_2 0 rfl (ws' := [ob k 8 [.int (nI 0), .int (nI tr), .int wh, .ref g, va_rf rr, .ref (q 5), .int (nI (z 6)), .int (nI (z 7)), .int (nI (z 8)), .int (nI (z 9)), .int (nI (z 10)), .int nb, .int (nI (z 12)), .int wa, .long wd, .ref (q 15), .ref (q 16), .ref (q 17), .ref (q 18), .int (nI ac), .int (nI (z 20)), .ref (q 21), .long (lN ev), .ref (q 23), .ref (q 24), .int (nI (z 25)), .ref (q 26), .int al, .long wl, .int (nI (z 29))], ob g 7 [.int (nI (cy 0)), .int (nI (cy 1)), .int (nI (cy 2)), .int (nI (cy 3)), .int (nI (cy 4)), .int (nI (cy 5)), .int (nI (cy 6)), .int (nI (cy 7)), .int (nI kp), .int (nI nc), .ref (cb 0), .ref (cb 1), .ref (cb 2), .ref (cb 3), .ref (cb 4), .ref (cb 5), .ref (cb 6), .ref (cb 7), .ref (cb 8), .ref (cb 9), .ref (cb 10), .ref (cb 11)], aI E (q 15) 25 (xF mn ink t dd), aI E (q 17) 400 (rwF pp)]) rfl rfl ?_
  refine v_aload_n X dX8_turn_5 rfl 0 rfl ?_
  refine v_iload_n X dX8_turn_6 rfl 1 rfl ?_
  refine v_roI1 X (rn_V X k_X8_isClause ml_X8_342 dX8_turn_7 (c_X8_isClause l E k 0 tr wh g rr q (upN z 19 ac) nb wa wd ev al wl cy kp nc cb (nI c) ) rfl 0 rfl rfl (by decide) (by decide) (by omega) (by omega) (Nat.le_of_ble_eq_true rfl)) [0, 1] rfl rfl ?_
  refine v_ifB_ne X dX8_turn_10 (tgt := 19) (by decide) (fun h10 => ?_) (fun h10 => ?_)
  · refine v_aload_n X dX8_turn_19 rfl 0 rfl ?_
    refine v_wrV1 X (rn_V X k_X8_remembers ml_X8_469 dX8_turn_20 (c_X8_remembers l E k 0 tr wh g rr q z nb wa wd ev al wl mn ink t dd ac pp (by first | assumption | omega)) rfl 0 rfl rfl (by decide) (by decide) (by omega) (by omega) (Nat.le_of_ble_eq_true rfl)) [0, 2, 3] rfl rfl (ws' := [ob k 8 [.int (nI 0), .int (nI tr), .int wh, .ref g, va_rf rr, .ref (q 5), .int (nI (z 6)), .int (nI (z 7)), .int (nI (z 8)), .int (nI (z 9)), .int (nI (z 10)), .int nb, .int (nI (z 12)), .int wa, .long wd, .ref (q 15), .ref (q 16), .ref (q 17), .ref (q 18), .int (nI (kaA ac)), .int (nI (z 20)), .ref (q 21), .long (lN ev), .ref (q 23), .ref (q 24), .int (nI (z 25)), .ref (q 26), .int al, .long wl, .int (nI (z 29))], ob g 7 [.int (nI (cy 0)), .int (nI (cy 1)), .int (nI (cy 2)), .int (nI (cy 3)), .int (nI (cy 4)), .int (nI (cy 5)), .int (nI (cy 6)), .int (nI (cy 7)), .int (nI kp), .int (nI nc), .ref (cb 0), .ref (cb 1), .ref (cb 2), .ref (cb 3), .ref (cb 4), .ref (cb 5), .ref (cb 6), .ref (cb 7), .ref (cb 8), .ref (cb 9), .ref (cb 10), .ref (cb 11)], aI E (q 15) 25 (xF mn ink t dd), aI E (q 17) 400 (rwF (rmP pp ac (ink, mn, t, dd)))]) rfl rfl ?_
    refine v_aload_n X dX8_turn_23 rfl 0 rfl ?_
    refine v_get X kcX8 fl_X8_17 dX8_turn_24 0 rfl rfl ?_
    refine v_bipush X dX8_turn_27 (v := nI 16) (by decide) ?_
    refine v_iload_n X dX8_turn_29 rfl 1 rfl ?_
    refine v_iadd X dX8_turn_30 ?_
    refine v_eqi (x' := nI (16 + c)) (nI_add _ _) ?_
    refine v_iconst X dX8_turn_31 (v := nI 1) (by decide) ?_
    refine v_aload_n X dX8_turn_32 rfl 0 rfl ?_
    refine v_get X kcX8 fl_X8_17 dX8_turn_33 0 rfl rfl ?_
    refine v_bipush X dX8_turn_36 (v := nI 16) (by decide) ?_
    refine v_iload_n X dX8_turn_38 rfl 1 rfl ?_
    refine v_iadd X dX8_turn_39 ?_
    refine v_eqi (x' := nI (16 + c)) (nI_add _ _) ?_
    refine v_iald X dX8_turn_40 2 rfl (by omega) (by decide) ?_
    refine v_eqi (x' := nI ((t.testBit c).toNat)) (xF_t (by omega)) ?_
    refine v_isub X dX8_turn_41 ?_
    refine v_eqi (x' := nI (1 - (t.testBit c).toNat)) (pk_sub (by cases t.testBit c <;> decide)) ?_
    refine v_iast X dX8_turn_42 2 rfl (by omega) (by decide) (ws' := [ob k 8 [.int (nI 0), .int (nI tr), .int wh, .ref g, va_rf rr, .ref (q 5), .int (nI (z 6)), .int (nI (z 7)), .int (nI (z 8)), .int (nI (z 9)), .int (nI (z 10)), .int nb, .int (nI (z 12)), .int wa, .long wd, .ref (q 15), .ref (q 16), .ref (q 17), .ref (q 18), .int (nI (kaA ac)), .int (nI (z 20)), .ref (q 21), .long (lN ev), .ref (q 23), .ref (q 24), .int (nI (z 25)), .ref (q 26), .int al, .long wl, .int (nI (z 29))], ob g 7 [.int (nI (cy 0)), .int (nI (cy 1)), .int (nI (cy 2)), .int (nI (cy 3)), .int (nI (cy 4)), .int (nI (cy 5)), .int (nI (cy 6)), .int (nI (cy 7)), .int (nI kp), .int (nI nc), .ref (cb 0), .ref (cb 1), .ref (cb 2), .ref (cb 3), .ref (cb 4), .ref (cb 5), .ref (cb 6), .ref (cb 7), .ref (cb 8), .ref (cb 9), .ref (cb 10), .ref (cb 11)], aI E (q 15) 25 (upd (xF mn ink t dd) (16 + c) (nI (1 - (t.testBit c).toNat))), aI E (q 17) 400 (rwF (rmP pp ac (ink, mn, t, dd)))]) rfl ?_
    refine V.arI 2 rfl (g' := xF mn ink (t ^^^ 2 ^ c) dd) (fun j _ => by rw [xb_e, xF_upT (by omega)]) (ws' := [ob k 8 [.int (nI 0), .int (nI tr), .int wh, .ref g, va_rf rr, .ref (q 5), .int (nI (z 6)), .int (nI (z 7)), .int (nI (z 8)), .int (nI (z 9)), .int (nI (z 10)), .int nb, .int (nI (z 12)), .int wa, .long wd, .ref (q 15), .ref (q 16), .ref (q 17), .ref (q 18), .int (nI (kaA ac)), .int (nI (z 20)), .ref (q 21), .long (lN ev), .ref (q 23), .ref (q 24), .int (nI (z 25)), .ref (q 26), .int al, .long wl, .int (nI (z 29))], ob g 7 [.int (nI (cy 0)), .int (nI (cy 1)), .int (nI (cy 2)), .int (nI (cy 3)), .int (nI (cy 4)), .int (nI (cy 5)), .int (nI (cy 6)), .int (nI (cy 7)), .int (nI kp), .int (nI nc), .ref (cb 0), .ref (cb 1), .ref (cb 2), .ref (cb 3), .ref (cb 4), .ref (cb 5), .ref (cb 6), .ref (cb 7), .ref (cb 8), .ref (cb 9), .ref (cb 10), .ref (cb 11)], aI E (q 15) 25 (xF mn ink (t ^^^ 2 ^ c) dd), aI E (q 17) 400 (rwF (rmP pp ac (ink, mn, t, dd)))]) rfl ?_
    refine v_aload_n X dX8_turn_43 rfl 0 rfl ?_
    refine v_aload_n X dX8_turn_44 rfl 0 rfl ?_
    refine v_get X kcX8 fl_X8_17 dX8_turn_45 0 rfl rfl ?_
    refine v_bipush X dX8_turn_48 (v := nI 16) (by decide) ?_
    refine v_iload_n X dX8_turn_50 rfl 1 rfl ?_
    refine v_iadd X dX8_turn_51 ?_
    refine v_eqi (x' := nI (16 + c)) (nI_add _ _) ?_
    refine v_iald X dX8_turn_52 2 rfl (by omega) (by decide) ?_
    refine v_eqi (x' := nI (((t ^^^ 2 ^ c).testBit c).toNat)) (xF_t (by omega)) ?_
    refine v_wrI1 X (rn_V X k_X8_good ml_X8_53 dX8_turn_53 (c_X8_good l E k 0 tr wh g rr q (upN z 19 (kaA ac)) nb wa wd ev al wl (nI (((t ^^^ 2 ^ c).testBit c).toNat)) ) rfl 0 rfl rfl (by decide) (by decide) (by omega) (by omega) (Nat.le_of_ble_eq_true rfl)) [0] rfl rfl (ws' := [ob k 8 [.int (nI 0), .int (nI 0), .int (-1), .ref g, va_rf rr, .ref (q 5), .int (nI (z 6)), .int (nI (z 7)), .int (nI (z 8)), .int (nI (z 9)), .int (nI (z 10)), .int nb, .int (nI (z 12)), .int wa, .long wd, .ref (q 15), .ref (q 16), .ref (q 17), .ref (q 18), .int (nI (kaA ac)), .int (nI (z 20)), .ref (q 21), .long (lN ev), .ref (q 23), .ref (q 24), .int (nI (z 25)), .ref (q 26), .int al, .long wl, .int (nI (z 29))], ob g 7 [.int (nI (cy 0)), .int (nI (cy 1)), .int (nI (cy 2)), .int (nI (cy 3)), .int (nI (cy 4)), .int (nI (cy 5)), .int (nI (cy 6)), .int (nI (cy 7)), .int (nI kp), .int (nI nc), .ref (cb 0), .ref (cb 1), .ref (cb 2), .ref (cb 3), .ref (cb 4), .ref (cb 5), .ref (cb 6), .ref (cb 7), .ref (cb 8), .ref (cb 9), .ref (cb 10), .ref (cb 11)], aI E (q 15) 25 (xF mn ink (t ^^^ 2 ^ c) dd), aI E (q 17) 400 (rwF (rmP pp ac (ink, mn, t, dd)))]) rfl rfl ?_
    exact v_iret X Y dX8_turn_56 (wrI_of rfl (rfl)) (by omega) (by omega)
  · exact absurd (okM_of hc (by omega)) (of_decide_eq_false h10)
set_option maxRecDepth 100000 in
set_option maxHeartbeats 4000000 in
theorem c_X8_turn_no (l : Launch) (E : Et) (k : Nat) (th : Nat) (tr : Nat) (wh : Int32) (g : Nat) (rr : Option Nat) (q : Nat → Nat) (z : Nat → Nat) (nb : Int32) (wa : Int32) (wd : Int64) (ev : Nat) (al : Int32) (wl : Int64) (cy : Nat → Nat) (kp : Nat) (nc : Nat) (cb : Nat → Nat) (c : Int32) (hno : ¬ okM c (cy 5)) : Ct l E yX8_turn cX8_turn 2 (some .int) 5 0 0 [.ref k, .int c] [ob k 8 [.int (nI th), .int (nI tr), .int wh, .ref g, va_rf rr, .ref (q 5), .int (nI (z 6)), .int (nI (z 7)), .int (nI (z 8)), .int (nI (z 9)), .int (nI (z 10)), .int nb, .int (nI (z 12)), .int wa, .long wd, .ref (q 15), .ref (q 16), .ref (q 17), .ref (q 18), .int (nI (z 19)), .int (nI (z 20)), .ref (q 21), .long (lN ev), .ref (q 23), .ref (q 24), .int (nI (z 25)), .ref (q 26), .int al, .long wl, .int (nI (z 29))], ob g 7 [.int (nI (cy 0)), .int (nI (cy 1)), .int (nI (cy 2)), .int (nI (cy 3)), .int (nI (cy 4)), .int (nI (cy 5)), .int (nI (cy 6)), .int (nI (cy 7)), .int (nI kp), .int (nI nc), .ref (cb 0), .ref (cb 1), .ref (cb 2), .ref (cb 3), .ref (cb 4), .ref (cb 5), .ref (cb 6), .ref (cb 7), .ref (cb 8), .ref (cb 9), .ref (cb 10), .ref (cb 11)]] (wrI [ob k 8 [.int (nI 0), .int (nI 1), .int (-1), .ref g, va_rf rr, .ref (q 5), .int (nI (z 6)), .int (nI (z 7)), .int (nI (z 8)), .int (nI (z 9)), .int (nI (z 10)), .int nb, .int (nI (z 12)), .int wa, .long wd, .ref (q 15), .ref (q 16), .ref (q 17), .ref (q 18), .int (nI (z 19)), .int (nI (z 20)), .ref (q 21), .long (lN ev), .ref (q 23), .ref (q 24), .int (nI (z 25)), .ref (q 26), .int al, .long wl, .int (nI (z 29))], ob g 7 [.int (nI (cy 0)), .int (nI (cy 1)), .int (nI (cy 2)), .int (nI (cy 3)), .int (nI (cy 4)), .int (nI (cy 5)), .int (nI (cy 6)), .int (nI (cy 7)), .int (nI kp), .int (nI nc), .ref (cb 0), .ref (cb 1), .ref (cb 2), .ref (cb 3), .ref (cb 4), .ref (cb 5), .ref (cb 6), .ref (cb 7), .ref (cb 8), .ref (cb 9), .ref (cb 10), .ref (cb 11)]] (-1)) := by
  refine Ct.intro (by decide +kernel) (Nat.le_of_ble_eq_true rfl) (lv := [(0, .ref k), (1, .int c)]) rfl ?_
  intro Z X Y
  refine v_aload_n X dX8_turn_0 rfl 0 rfl ?_
  refine v_iconst X dX8_turn_1 (v := nI 0) (by decide) ?_
  refine v_put X kcX8 fl_X8_43 dX8_turn_2 0 rfl (ws' := [ob k 8 [.int (nI 0), .int (nI tr), .int wh, .ref g, va_rf rr, .ref (q 5), .int (nI (z 6)), .int (nI (z 7)), .int (nI (z 8)), .int (nI (z 9)), .int (nI (z 10)), .int nb, .int (nI (z 12)), .int wa, .long wd, .ref (q 15), .ref (q 16), .ref (q 17), .ref (q 18), .int (nI (z 19)), .int (nI (z 20)), .ref (q 21), .long (lN ev), .ref (q 23), .ref (q 24), .int (nI (z 25)), .ref (q 26), .int al, .long wl, .int (nI (z 29))], ob g 7 [.int (nI (cy 0)), .int (nI (cy 1)), .int (nI (cy 2)), .int (nI (cy 3)), .int (nI (cy 4)), .int (nI (cy 5)), .int (nI (cy 6)), .int (nI (cy 7)), .int (nI kp), .int (nI nc), .ref (cb 0), .ref (cb 1), .ref (cb 2), .ref (cb 3), .ref (cb 4), .ref (cb 5), .ref (cb 6), .ref (cb 7), .ref (cb 8), .ref (cb 9), .ref (cb 10), .ref (cb 11)]]) rfl rfl ?_
  refine v_aload_n X dX8_turn_5 rfl 0 rfl ?_
  refine v_iload_n X dX8_turn_6 rfl 1 rfl ?_
  refine v_roI1 X (rn_V X k_X8_isClause ml_X8_342 dX8_turn_7 (c_X8_isClause l E k 0 tr wh g rr q z nb wa wd ev al wl cy kp nc cb c ) rfl 0 rfl rfl (by decide) (by decide) (by omega) (by omega) (Nat.le_of_ble_eq_true rfl)) [0, 1] rfl rfl ?_
  refine v_ifB_ne X dX8_turn_10 (tgt := 19) (by decide) (fun h10 => ?_) (fun h10 => ?_)
  · exact absurd (of_decide_eq_true h10) hno
  · refine v_aload_n X dX8_turn_13 rfl 0 rfl ?_
    refine v_iconst X dX8_turn_14 (v := nI 1) (by decide) ?_
    refine v_wrI1 X (rn_V X k_X8_refused ml_X8_49 dX8_turn_15 (c_X8_refused l E k 0 tr wh g rr q z nb wa wd ev al wl 1 ) rfl 0 rfl rfl (by decide) (by decide) (by omega) (by omega) (Nat.le_of_ble_eq_true rfl)) [0] rfl rfl (ws' := [ob k 8 [.int (nI 0), .int (nI 1), .int (-1), .ref g, va_rf rr, .ref (q 5), .int (nI (z 6)), .int (nI (z 7)), .int (nI (z 8)), .int (nI (z 9)), .int (nI (z 10)), .int nb, .int (nI (z 12)), .int wa, .long wd, .ref (q 15), .ref (q 16), .ref (q 17), .ref (q 18), .int (nI (z 19)), .int (nI (z 20)), .ref (q 21), .long (lN ev), .ref (q 23), .ref (q 24), .int (nI (z 25)), .ref (q 26), .int al, .long wl, .int (nI (z 29))], ob g 7 [.int (nI (cy 0)), .int (nI (cy 1)), .int (nI (cy 2)), .int (nI (cy 3)), .int (nI (cy 4)), .int (nI (cy 5)), .int (nI (cy 6)), .int (nI (cy 7)), .int (nI kp), .int (nI nc), .ref (cb 0), .ref (cb 1), .ref (cb 2), .ref (cb 3), .ref (cb 4), .ref (cb 5), .ref (cb 6), .ref (cb 7), .ref (cb 8), .ref (cb 9), .ref (cb 10), .ref (cb 11)]]) rfl rfl ?_
    exact v_iret X Y dX8_turn_18 (wrI_of rfl rfl) (by omega) (by omega)
set_option maxRecDepth 100000 in
set_option maxHeartbeats 4000000 in
theorem c_X8_turn_n (l : Launch) (E : Et) (k : Nat) (th : Nat) (tr : Nat) (wh : Int32) (rr : Option Nat) (q : Nat → Nat) (z : Nat → Nat) (nb : Int32) (wa : Int32) (wd : Int64) (ev : Nat) (al : Int32) (wl : Int64) (c : Int32)  : Ct l E yX8_turn cX8_turn 2 (some .int) 5 0 0 [.ref k, .int c] [ob k 8 [.int (nI th), .int (nI tr), .int wh, .null, va_rf rr, .ref (q 5), .int (nI (z 6)), .int (nI (z 7)), .int (nI (z 8)), .int (nI (z 9)), .int (nI (z 10)), .int nb, .int (nI (z 12)), .int wa, .long wd, .ref (q 15), .ref (q 16), .ref (q 17), .ref (q 18), .int (nI (z 19)), .int (nI (z 20)), .ref (q 21), .long (lN ev), .ref (q 23), .ref (q 24), .int (nI (z 25)), .ref (q 26), .int al, .long wl, .int (nI (z 29))]] (wrI [ob k 8 [.int (nI 0), .int (nI 1), .int (-1), .null, va_rf rr, .ref (q 5), .int (nI (z 6)), .int (nI (z 7)), .int (nI (z 8)), .int (nI (z 9)), .int (nI (z 10)), .int nb, .int (nI (z 12)), .int wa, .long wd, .ref (q 15), .ref (q 16), .ref (q 17), .ref (q 18), .int (nI (z 19)), .int (nI (z 20)), .ref (q 21), .long (lN ev), .ref (q 23), .ref (q 24), .int (nI (z 25)), .ref (q 26), .int al, .long wl, .int (nI (z 29))]] (-1)) := by
  refine Ct.intro (by decide +kernel) (Nat.le_of_ble_eq_true rfl) (lv := [(0, .ref k), (1, .int c)]) rfl ?_
  intro Z X Y
  refine v_aload_n X dX8_turn_0 rfl 0 rfl ?_
  refine v_iconst X dX8_turn_1 (v := nI 0) (by decide) ?_
  refine v_put X kcX8 fl_X8_43 dX8_turn_2 0 rfl (ws' := [ob k 8 [.int (nI 0), .int (nI tr), .int wh, .null, va_rf rr, .ref (q 5), .int (nI (z 6)), .int (nI (z 7)), .int (nI (z 8)), .int (nI (z 9)), .int (nI (z 10)), .int nb, .int (nI (z 12)), .int wa, .long wd, .ref (q 15), .ref (q 16), .ref (q 17), .ref (q 18), .int (nI (z 19)), .int (nI (z 20)), .ref (q 21), .long (lN ev), .ref (q 23), .ref (q 24), .int (nI (z 25)), .ref (q 26), .int al, .long wl, .int (nI (z 29))]]) rfl rfl ?_
  refine v_aload_n X dX8_turn_5 rfl 0 rfl ?_
  refine v_iload_n X dX8_turn_6 rfl 1 rfl ?_
  refine v_roI1 X (rn_V X k_X8_isClause ml_X8_342 dX8_turn_7 (c_X8_isClause_n l E k 0 tr wh rr q z nb wa wd ev al wl c ) rfl 0 rfl rfl (by decide) (by decide) (by omega) (by omega) (Nat.le_of_ble_eq_true rfl)) [0] rfl rfl ?_
  refine v_ifN_ne X dX8_turn_10 (tgt := 19) (by decide) (by decide) (fun h10 => ?_) (fun h10 => ?_)
  · exfalso; omega
  · refine v_aload_n X dX8_turn_13 rfl 0 rfl ?_
    refine v_iconst X dX8_turn_14 (v := nI 1) (by decide) ?_
    refine v_wrI1 X (rn_V X k_X8_refused ml_X8_49 dX8_turn_15 (c_X8_refused_n l E k 0 tr wh rr q z nb wa wd ev al wl 1 ) rfl 0 rfl rfl (by decide) (by decide) (by omega) (by omega) (Nat.le_of_ble_eq_true rfl)) [0] rfl rfl (ws' := [ob k 8 [.int (nI 0), .int (nI 1), .int (-1), .null, va_rf rr, .ref (q 5), .int (nI (z 6)), .int (nI (z 7)), .int (nI (z 8)), .int (nI (z 9)), .int (nI (z 10)), .int nb, .int (nI (z 12)), .int wa, .long wd, .ref (q 15), .ref (q 16), .ref (q 17), .ref (q 18), .int (nI (z 19)), .int (nI (z 20)), .ref (q 21), .long (lN ev), .ref (q 23), .ref (q 24), .int (nI (z 25)), .ref (q 26), .int al, .long wl, .int (nI (z 29))]]) rfl rfl ?_
    exact v_iret X Y dX8_turn_18 (wrI_of rfl rfl) (by omega) (by omega)
set_option maxRecDepth 100000 in
set_option maxHeartbeats 4000000 in
theorem c_X8_undo (l : Launch) (E : Et) (k : Nat) (th : Nat) (tr : Nat) (wh : Int32) (g : Nat) (rr : Option Nat) (q : Nat → Nat) (z : Nat → Nat) (nb : Int32) (wa : Int32) (wd : Int64) (ev : Nat) (al : Int32) (wl : Int64) (vf : Nat → Int32) (ac : Nat) (pp : Nat → Pv) (hac : ac ≤ 16) (h0 : ¬ ac = 0) : Ct l E yX8_undo cX8_undo 2 (some .boolean) 5 0 0 [.ref k] [ob k 8 [.int (nI th), .int (nI tr), .int wh, .ref g, va_rf rr, .ref (q 5), .int (nI (z 6)), .int (nI (z 7)), .int (nI (z 8)), .int (nI (z 9)), .int (nI (z 10)), .int nb, .int (nI (z 12)), .int wa, .long wd, .ref (q 15), .ref (q 16), .ref (q 17), .ref (q 18), .int (nI ac), .int (nI (z 20)), .ref (q 21), .long (lN ev), .ref (q 23), .ref (q 24), .int (nI (z 25)), .ref (q 26), .int al, .long wl, .int (nI (z 29))], aI E (q 15) 25 vf, aI E (q 17) 400 (rwF pp)] (wrI [ob k 8 [.int (nI 0), .int (nI 0), .int (-1), .ref g, va_rf rr, .ref (q 5), .int (nI (z 6)), .int (nI (z 7)), .int (nI (z 8)), .int (nI (z 9)), .int (nI (z 10)), .int nb, .int (nI (z 12)), .int wa, .long wd, .ref (q 15), .ref (q 16), .ref (q 17), .ref (q 18), .int (nI (ac - 1)), .int (nI (z 20)), .ref (q 21), .long (lN ev), .ref (q 23), .ref (q 24), .int (nI (z 25)), .ref (q 26), .int al, .long wl, .int (nI (z 29))], aI E (q 15) 25 (xF (pp (ac - 1)).2.1 (pp (ac - 1)).1 (pp (ac - 1)).2.2.1 (pp (ac - 1)).2.2.2), aI E (q 17) 400 (rwF pp)] (nI 1)) := by
  refine Ct.intro (by decide +kernel) (Nat.le_of_ble_eq_true rfl) (lv := [(0, .ref k)]) rfl ?_
  intro Z X Y
  refine v_aload_n X dX8_undo_0 rfl 0 rfl ?_
  refine v_iconst X dX8_undo_1 (v := nI 0) (by decide) ?_
  refine v_put X kcX8 fl_X8_43 dX8_undo_2 0 rfl (ws' := [ob k 8 [.int (nI 0), .int (nI tr), .int wh, .ref g, va_rf rr, .ref (q 5), .int (nI (z 6)), .int (nI (z 7)), .int (nI (z 8)), .int (nI (z 9)), .int (nI (z 10)), .int nb, .int (nI (z 12)), .int wa, .long wd, .ref (q 15), .ref (q 16), .ref (q 17), .ref (q 18), .int (nI ac), .int (nI (z 20)), .ref (q 21), .long (lN ev), .ref (q 23), .ref (q 24), .int (nI (z 25)), .ref (q 26), .int al, .long wl, .int (nI (z 29))], aI E (q 15) 25 vf, aI E (q 17) 400 (rwF pp)]) rfl rfl ?_
  refine v_aload_n X dX8_undo_5 rfl 0 rfl ?_
  refine v_get X kcX8 fl_X8_306 dX8_undo_6 0 rfl rfl ?_
  refine v_ifnull X dX8_undo_9 ?_
  refine v_aload_n X dX8_undo_12 rfl 0 rfl ?_
  refine v_get X kcX8 fl_X8_311 dX8_undo_13 0 rfl rfl ?_
  refine v_ifN_ne X dX8_undo_16 (tgt := 26) (by decide) (by omega) (fun h16 => ?_) (fun h16 => ?_)
  · refine v_aload_n X dX8_undo_26 rfl 0 rfl ?_
    refine v_dup X dX8_undo_27 rfl ?_
    refine v_get X kcX8 fl_X8_311 dX8_undo_28 0 rfl rfl ?_
    refine v_iconst X dX8_undo_31 (v := nI 1) (by decide) ?_
    refine v_isub X dX8_undo_32 ?_
    refine v_eqi (x' := nI (ac - 1)) (pk_sub (by omega)) ?_
    refine v_put X kcX8 fl_X8_311 dX8_undo_33 0 rfl (ws' := [ob k 8 [.int (nI 0), .int (nI tr), .int wh, .ref g, va_rf rr, .ref (q 5), .int (nI (z 6)), .int (nI (z 7)), .int (nI (z 8)), .int (nI (z 9)), .int (nI (z 10)), .int nb, .int (nI (z 12)), .int wa, .long wd, .ref (q 15), .ref (q 16), .ref (q 17), .ref (q 18), .int (nI (ac - 1)), .int (nI (z 20)), .ref (q 21), .long (lN ev), .ref (q 23), .ref (q 24), .int (nI (z 25)), .ref (q 26), .int al, .long wl, .int (nI (z 29))], aI E (q 15) 25 vf, aI E (q 17) 400 (rwF pp)]) rfl rfl ?_
    refine v_iconst X dX8_undo_36 (v := nI 0) (by decide) ?_
    refine v_istore_n X dX8_undo_37 rfl (by decide) (lv' := [(1, .int (nI 0)), (0, .ref k)]) rfl ?_
    have L38 : ∀ (j38 : Nat) (vk : Nat) (vg : Nat → Int32), (vk ≤ 25 ∧ ∀ j, j < vk → vg j = xF (pp (ac - 1)).2.1 (pp (ac - 1)).1 (pp (ac - 1)).2.2.1 (pp (ac - 1)).2.2.2 j) → 25 - vk < j38 → V E Z 38 [(0, .ref k), (1, .int (nI vk))] [] [ob k 8 [.int (nI 0), .int (nI tr), .int wh, .ref g, va_rf rr, .ref (q 5), .int (nI (z 6)), .int (nI (z 7)), .int (nI (z 8)), .int (nI (z 9)), .int (nI (z 10)), .int nb, .int (nI (z 12)), .int wa, .long wd, .ref (q 15), .ref (q 16), .ref (q 17), .ref (q 18), .int (nI (ac - 1)), .int (nI (z 20)), .ref (q 21), .long (lN ev), .ref (q 23), .ref (q 24), .int (nI (z 25)), .ref (q 26), .int al, .long wl, .int (nI (z 29))], aI E (q 15) 25 vg, aI E (q 17) 400 (rwF pp)] 0 0 := by
      intro j38
      induction j38 with
      | zero => intro vk vg hI hM; exact absurd hM (Nat.not_lt_zero _)
      | succ j38 ih38 =>
        intro vk vg hI38 hM38
        obtain ⟨hck, hg⟩ := id hI38
        refine v_iload_n X dX8_undo_38 rfl 1 rfl ?_
        refine v_bipush X dX8_undo_39 (v := nI 25) (by decide) ?_
        refine v_icmpN_ge X dX8_undo_41 (tgt := 70) (by decide) (by omega) (by decide) (fun h41 => ?_) (fun h41 => ?_)
        · refine V.arI 1 rfl (g' := xF (pp (ac - 1)).2.1 (pp (ac - 1)).1 (pp (ac - 1)).2.2.1 (pp (ac - 1)).2.2.2) (fun j hj => hg j (by omega)) (ws' := [ob k 8 [.int (nI 0), .int (nI tr), .int wh, .ref g, va_rf rr, .ref (q 5), .int (nI (z 6)), .int (nI (z 7)), .int (nI (z 8)), .int (nI (z 9)), .int (nI (z 10)), .int nb, .int (nI (z 12)), .int wa, .long wd, .ref (q 15), .ref (q 16), .ref (q 17), .ref (q 18), .int (nI (ac - 1)), .int (nI (z 20)), .ref (q 21), .long (lN ev), .ref (q 23), .ref (q 24), .int (nI (z 25)), .ref (q 26), .int al, .long wl, .int (nI (z 29))], aI E (q 15) 25 (xF (pp (ac - 1)).2.1 (pp (ac - 1)).1 (pp (ac - 1)).2.2.1 (pp (ac - 1)).2.2.2), aI E (q 17) 400 (rwF pp)]) rfl ?_
          refine v_aload_n X dX8_undo_70 rfl 0 rfl ?_
          refine v_wrI1 X (rn_V X k_X8_granted ml_X8_478 dX8_undo_71 (c_X8_granted l E k 0 tr wh g rr q (upN z 19 (ac - 1)) nb wa wd ev al wl ) rfl 0 rfl rfl (by decide) (by decide) (by omega) (by omega) (Nat.le_of_ble_eq_true rfl)) [0] rfl rfl (ws' := [ob k 8 [.int (nI 0), .int (nI 0), .int (-1), .ref g, va_rf rr, .ref (q 5), .int (nI (z 6)), .int (nI (z 7)), .int (nI (z 8)), .int (nI (z 9)), .int (nI (z 10)), .int nb, .int (nI (z 12)), .int wa, .long wd, .ref (q 15), .ref (q 16), .ref (q 17), .ref (q 18), .int (nI (ac - 1)), .int (nI (z 20)), .ref (q 21), .long (lN ev), .ref (q 23), .ref (q 24), .int (nI (z 25)), .ref (q 26), .int al, .long wl, .int (nI (z 29))], aI E (q 15) 25 (xF (pp (ac - 1)).2.1 (pp (ac - 1)).1 (pp (ac - 1)).2.2.1 (pp (ac - 1)).2.2.2), aI E (q 17) 400 (rwF pp)]) rfl rfl ?_
          exact v_zret X Y dX8_undo_74 (by decide) (wrI_of rfl rfl) (by omega) (by omega)
        · refine v_aload_n X dX8_undo_44 rfl 0 rfl ?_
          refine v_get X kcX8 fl_X8_17 dX8_undo_45 0 rfl rfl ?_
          refine v_iload_n X dX8_undo_48 rfl 1 rfl ?_
          refine v_aload_n X dX8_undo_49 rfl 0 rfl ?_
          refine v_get X kcX8 fl_X8_24 dX8_undo_50 0 rfl rfl ?_
          refine v_bipush X dX8_undo_53 (v := nI 25) (by decide) ?_
          refine v_aload_n X dX8_undo_55 rfl 0 rfl ?_
          refine v_get X kcX8 fl_X8_311 dX8_undo_56 0 rfl rfl ?_
          refine v_imul X dX8_undo_59 ?_
          refine v_eqi (x' := nI (25 * (ac - 1))) (pk_mul _ _) ?_
          refine v_iload_n X dX8_undo_60 rfl 1 rfl ?_
          refine v_iadd X dX8_undo_61 ?_
          refine v_eqi (x' := nI ((25 * (ac - 1)) + vk)) (nI_add _ _) ?_
          refine v_iald X dX8_undo_62 2 rfl (by omega) (by decide) ?_
          refine v_iast X dX8_undo_63 1 rfl (by omega) (by decide) (ws' := [ob k 8 [.int (nI 0), .int (nI tr), .int wh, .ref g, va_rf rr, .ref (q 5), .int (nI (z 6)), .int (nI (z 7)), .int (nI (z 8)), .int (nI (z 9)), .int (nI (z 10)), .int nb, .int (nI (z 12)), .int wa, .long wd, .ref (q 15), .ref (q 16), .ref (q 17), .ref (q 18), .int (nI (ac - 1)), .int (nI (z 20)), .ref (q 21), .long (lN ev), .ref (q 23), .ref (q 24), .int (nI (z 25)), .ref (q 26), .int al, .long wl, .int (nI (z 29))], aI E (q 15) 25 (upd vg vk ((rwF pp) ((25 * (ac - 1)) + vk))), aI E (q 17) 400 (rwF pp)]) rfl ?_
          refine v_iinc X dX8_undo_64 1 rfl (v := nI (vk + 1)) (nI_inc vk) (by decide) (lv' := [(1, .int (nI (vk + 1))), (0, .ref k)]) rfl ?_
          refine v_goto X dX8_undo_67 (tgt := 38) (by decide) ?_
          refine V.lvs [1, 0] rfl ?_
          exact ih38 (vk + 1) (upd vg vk ((rwF pp) ((25 * (ac - 1)) + vk))) (⟨by omega, fillI hg (rw_at pp (a := ac - 1) (by omega))⟩) (by omega)
    refine V.lvs [1, 0] rfl ?_
    exact L38 _ 0 vf (⟨by omega, fun j hj => absurd hj (Nat.not_lt_zero j)⟩) (Nat.lt_succ_self _)
  · exact absurd h16 h0
set_option maxRecDepth 100000 in
set_option maxHeartbeats 4000000 in
theorem c_X8_undo_no (l : Launch) (E : Et) (k : Nat) (th : Nat) (tr : Nat) (wh : Int32) (g : Nat) (rr : Option Nat) (q : Nat → Nat) (z : Nat → Nat) (nb : Int32) (wa : Int32) (wd : Int64) (ev : Nat) (al : Int32) (wl : Int64)  : Ct l E yX8_undo cX8_undo 2 (some .boolean) 5 0 0 [.ref k] [ob k 8 [.int (nI th), .int (nI tr), .int wh, .ref g, va_rf rr, .ref (q 5), .int (nI (z 6)), .int (nI (z 7)), .int (nI (z 8)), .int (nI (z 9)), .int (nI (z 10)), .int nb, .int (nI (z 12)), .int wa, .long wd, .ref (q 15), .ref (q 16), .ref (q 17), .ref (q 18), .int (nI 0), .int (nI (z 20)), .ref (q 21), .long (lN ev), .ref (q 23), .ref (q 24), .int (nI (z 25)), .ref (q 26), .int al, .long wl, .int (nI (z 29))]] (wrI [ob k 8 [.int (nI 0), .int (nI 6), .int (-1), .ref g, va_rf rr, .ref (q 5), .int (nI (z 6)), .int (nI (z 7)), .int (nI (z 8)), .int (nI (z 9)), .int (nI (z 10)), .int nb, .int (nI (z 12)), .int wa, .long wd, .ref (q 15), .ref (q 16), .ref (q 17), .ref (q 18), .int (nI 0), .int (nI (z 20)), .ref (q 21), .long (lN ev), .ref (q 23), .ref (q 24), .int (nI (z 25)), .ref (q 26), .int al, .long wl, .int (nI (z 29))]] (nI 0)) := by
  refine Ct.intro (by decide +kernel) (Nat.le_of_ble_eq_true rfl) (lv := [(0, .ref k)]) rfl ?_
  intro Z X Y
  refine v_aload_n X dX8_undo_0 rfl 0 rfl ?_
  refine v_iconst X dX8_undo_1 (v := nI 0) (by decide) ?_
  refine v_put X kcX8 fl_X8_43 dX8_undo_2 0 rfl (ws' := [ob k 8 [.int (nI 0), .int (nI tr), .int wh, .ref g, va_rf rr, .ref (q 5), .int (nI (z 6)), .int (nI (z 7)), .int (nI (z 8)), .int (nI (z 9)), .int (nI (z 10)), .int nb, .int (nI (z 12)), .int wa, .long wd, .ref (q 15), .ref (q 16), .ref (q 17), .ref (q 18), .int (nI 0), .int (nI (z 20)), .ref (q 21), .long (lN ev), .ref (q 23), .ref (q 24), .int (nI (z 25)), .ref (q 26), .int al, .long wl, .int (nI (z 29))]]) rfl rfl ?_
  refine v_aload_n X dX8_undo_5 rfl 0 rfl ?_
  refine v_get X kcX8 fl_X8_306 dX8_undo_6 0 rfl rfl ?_
  refine v_ifnull X dX8_undo_9 ?_
  refine v_aload_n X dX8_undo_12 rfl 0 rfl ?_
  refine v_get X kcX8 fl_X8_311 dX8_undo_13 0 rfl rfl ?_
  refine v_ifN_ne X dX8_undo_16 (tgt := 26) (by decide) (by decide) (fun h16 => ?_) (fun h16 => ?_)
  · exfalso; omega
  · refine v_aload_n X dX8_undo_19 rfl 0 rfl ?_
    refine v_bipush X dX8_undo_20 (v := nI 6) (by decide) ?_
    refine v_wrI1 X (rn_V X k_X8_denied ml_X8_475 dX8_undo_22 (c_X8_denied l E k 0 tr wh g rr q (upN z 19 0) nb wa wd ev al wl 6 ) rfl 0 rfl rfl (by decide) (by decide) (by omega) (by omega) (Nat.le_of_ble_eq_true rfl)) [0] rfl rfl (ws' := [ob k 8 [.int (nI 0), .int (nI 6), .int (-1), .ref g, va_rf rr, .ref (q 5), .int (nI (z 6)), .int (nI (z 7)), .int (nI (z 8)), .int (nI (z 9)), .int (nI (z 10)), .int nb, .int (nI (z 12)), .int wa, .long wd, .ref (q 15), .ref (q 16), .ref (q 17), .ref (q 18), .int (nI 0), .int (nI (z 20)), .ref (q 21), .long (lN ev), .ref (q 23), .ref (q 24), .int (nI (z 25)), .ref (q 26), .int al, .long wl, .int (nI (z 29))]]) rfl rfl ?_
    exact v_zret X Y dX8_undo_25 (by decide) (wrI_of rfl rfl) (by omega) (by omega)
set_option maxRecDepth 100000 in
set_option maxHeartbeats 4000000 in
theorem c_X8_undo_n (l : Launch) (E : Et) (k : Nat) (th : Nat) (tr : Nat) (wh : Int32) (rr : Option Nat) (q : Nat → Nat) (z : Nat → Nat) (nb : Int32) (wa : Int32) (wd : Int64) (ev : Nat) (al : Int32) (wl : Int64)  : Ct l E yX8_undo cX8_undo 2 (some .boolean) 5 0 0 [.ref k] [ob k 8 [.int (nI th), .int (nI tr), .int wh, .null, va_rf rr, .ref (q 5), .int (nI (z 6)), .int (nI (z 7)), .int (nI (z 8)), .int (nI (z 9)), .int (nI (z 10)), .int nb, .int (nI (z 12)), .int wa, .long wd, .ref (q 15), .ref (q 16), .ref (q 17), .ref (q 18), .int (nI (z 19)), .int (nI (z 20)), .ref (q 21), .long (lN ev), .ref (q 23), .ref (q 24), .int (nI (z 25)), .ref (q 26), .int al, .long wl, .int (nI (z 29))]] (wrI [ob k 8 [.int (nI 0), .int (nI 6), .int (-1), .null, va_rf rr, .ref (q 5), .int (nI (z 6)), .int (nI (z 7)), .int (nI (z 8)), .int (nI (z 9)), .int (nI (z 10)), .int nb, .int (nI (z 12)), .int wa, .long wd, .ref (q 15), .ref (q 16), .ref (q 17), .ref (q 18), .int (nI (z 19)), .int (nI (z 20)), .ref (q 21), .long (lN ev), .ref (q 23), .ref (q 24), .int (nI (z 25)), .ref (q 26), .int al, .long wl, .int (nI (z 29))]] (nI 0)) := by
  refine Ct.intro (by decide +kernel) (Nat.le_of_ble_eq_true rfl) (lv := [(0, .ref k)]) rfl ?_
  intro Z X Y
  refine v_aload_n X dX8_undo_0 rfl 0 rfl ?_
  refine v_iconst X dX8_undo_1 (v := nI 0) (by decide) ?_
  refine v_put X kcX8 fl_X8_43 dX8_undo_2 0 rfl (ws' := [ob k 8 [.int (nI 0), .int (nI tr), .int wh, .null, va_rf rr, .ref (q 5), .int (nI (z 6)), .int (nI (z 7)), .int (nI (z 8)), .int (nI (z 9)), .int (nI (z 10)), .int nb, .int (nI (z 12)), .int wa, .long wd, .ref (q 15), .ref (q 16), .ref (q 17), .ref (q 18), .int (nI (z 19)), .int (nI (z 20)), .ref (q 21), .long (lN ev), .ref (q 23), .ref (q 24), .int (nI (z 25)), .ref (q 26), .int al, .long wl, .int (nI (z 29))]]) rfl rfl ?_
  refine v_aload_n X dX8_undo_5 rfl 0 rfl ?_
  refine v_get X kcX8 fl_X8_306 dX8_undo_6 0 rfl rfl ?_
  refine v_ifnullN X dX8_undo_9 (tgt := 19) (by decide) ?_
  refine v_aload_n X dX8_undo_19 rfl 0 rfl ?_
  refine v_bipush X dX8_undo_20 (v := nI 6) (by decide) ?_
  refine v_wrI1 X (rn_V X k_X8_denied ml_X8_475 dX8_undo_22 (c_X8_denied_n l E k 0 tr wh rr q z nb wa wd ev al wl 6 ) rfl 0 rfl rfl (by decide) (by decide) (by omega) (by omega) (Nat.le_of_ble_eq_true rfl)) [0] rfl rfl (ws' := [ob k 8 [.int (nI 0), .int (nI 6), .int (-1), .null, va_rf rr, .ref (q 5), .int (nI (z 6)), .int (nI (z 7)), .int (nI (z 8)), .int (nI (z 9)), .int (nI (z 10)), .int nb, .int (nI (z 12)), .int wa, .long wd, .ref (q 15), .ref (q 16), .ref (q 17), .ref (q 18), .int (nI (z 19)), .int (nI (z 20)), .ref (q 21), .long (lN ev), .ref (q 23), .ref (q 24), .int (nI (z 25)), .ref (q 26), .int al, .long wl, .int (nI (z 29))]]) rfl rfl ?_
  exact v_zret X Y dX8_undo_25 (by decide) (wrI_of rfl rfl) (by omega) (by omega)
set_option maxRecDepth 100000 in
set_option maxHeartbeats 4000000 in
theorem c_X8_image (l : Launch) (E : Et) (k : Nat) (th : Nat) (tr : Nat) (wh : Int32) (g : Nat) (rr : Option Nat) (q : Nat → Nat) (z : Nat → Nat) (nb : Int32) (wa : Int32) (wd : Int64) (ev : Nat) (al : Int32) (wl : Int64) (mn : Nat → Int32) (ink : Nat → Nat) (t : Nat) (dd : Nat) (im : Nat) (pj : Nat → Pv) (him : im < 3) : Ct l E yX8_image cX8_image 2 (some .int) 5 0 0 [.ref k] [ob k 8 [.int (nI th), .int (nI tr), .int wh, .ref g, va_rf rr, .ref (q 5), .int (nI (z 6)), .int (nI (z 7)), .int (nI (z 8)), .int (nI (z 9)), .int (nI (z 10)), .int nb, .int (nI (z 12)), .int wa, .long wd, .ref (q 15), .ref (q 16), .ref (q 17), .ref (q 18), .int (nI (z 19)), .int (nI im), .ref (q 21), .long (lN ev), .ref (q 23), .ref (q 24), .int (nI (z 25)), .ref (q 26), .int al, .long wl, .int (nI (z 29))], aI E (q 15) 25 (xF mn ink t dd), aI E (q 18) 75 (rwF pj)] (wrI [ob k 8 [.int (nI 0), .int (nI 0), .int (-1), .ref g, va_rf rr, .ref (q 5), .int (nI (z 6)), .int (nI (z 7)), .int (nI (z 8)), .int (nI (z 9)), .int (nI (z 10)), .int nb, .int (nI (z 12)), .int wa, .long wd, .ref (q 15), .ref (q 16), .ref (q 17), .ref (q 18), .int (nI (z 19)), .int (nI (im + 1)), .ref (q 21), .long (lN ev), .ref (q 23), .ref (q 24), .int (nI (z 25)), .ref (q 26), .int al, .long wl, .int (nI (z 29))], aI E (q 15) 25 (xF mn ink t dd), aI E (q 18) 75 (rwF (fun i => if i = im then (ink, mn, t, dd) else pj i))] (nI im)) := by
  refine Ct.intro (by decide +kernel) (Nat.le_of_ble_eq_true rfl) (lv := [(0, .ref k)]) rfl ?_
  intro Z X Y
  refine v_aload_n X dX8_image_0 rfl 0 rfl ?_
  refine v_iconst X dX8_image_1 (v := nI 0) (by decide) ?_
  refine v_put X kcX8 fl_X8_43 dX8_image_2 0 rfl (ws' := [ob k 8 [.int (nI 0), .int (nI tr), .int wh, .ref g, va_rf rr, .ref (q 5), .int (nI (z 6)), .int (nI (z 7)), .int (nI (z 8)), .int (nI (z 9)), .int (nI (z 10)), .int nb, .int (nI (z 12)), .int wa, .long wd, .ref (q 15), .ref (q 16), .ref (q 17), .ref (q 18), .int (nI (z 19)), .int (nI im), .ref (q 21), .long (lN ev), .ref (q 23), .ref (q 24), .int (nI (z 25)), .ref (q 26), .int al, .long wl, .int (nI (z 29))], aI E (q 15) 25 (xF mn ink t dd), aI E (q 18) 75 (rwF pj)]) rfl rfl ?_
  refine v_aload_n X dX8_image_5 rfl 0 rfl ?_
  refine v_get X kcX8 fl_X8_306 dX8_image_6 0 rfl rfl ?_
  refine v_ifnonnull X dX8_image_9 (tgt := 18) (by decide) ?_
  refine v_aload_n X dX8_image_18 rfl 0 rfl ?_
  refine v_get X kcX8 fl_X8_314 dX8_image_19 0 rfl rfl ?_
  refine v_iconst X dX8_image_22 (v := nI 3) (by decide) ?_
  refine v_icmpN_ne X dX8_image_23 (tgt := 32) (by decide) (by omega) (by decide) (fun h23 => ?_) (fun h23 => ?_)
  · refine V.arI 2 rfl (g' := wrF (rwF pj) im (xF mn ink t dd) 0) (fun j _ => by rw [wrF_0]) (ws' := [ob k 8 [.int (nI 0), .int (nI tr), .int wh, .ref g, va_rf rr, .ref (q 5), .int (nI (z 6)), .int (nI (z 7)), .int (nI (z 8)), .int (nI (z 9)), .int (nI (z 10)), .int nb, .int (nI (z 12)), .int wa, .long wd, .ref (q 15), .ref (q 16), .ref (q 17), .ref (q 18), .int (nI (z 19)), .int (nI im), .ref (q 21), .long (lN ev), .ref (q 23), .ref (q 24), .int (nI (z 25)), .ref (q 26), .int al, .long wl, .int (nI (z 29))], aI E (q 15) 25 (xF mn ink t dd), aI E (q 18) 75 (wrF (rwF pj) im (xF mn ink t dd) 0)]) rfl ?_
    refine v_iconst X dX8_image_32 (v := nI 0) (by decide) ?_
    refine v_istore_n X dX8_image_33 rfl (by decide) (lv' := [(1, .int (nI 0)), (0, .ref k)]) rfl ?_
    have L34 : ∀ (j34 : Nat) (vk : Nat), (vk ≤ 25) → 25 - vk < j34 → V E Z 34 [(0, .ref k), (1, .int (nI vk))] [] [ob k 8 [.int (nI 0), .int (nI tr), .int wh, .ref g, va_rf rr, .ref (q 5), .int (nI (z 6)), .int (nI (z 7)), .int (nI (z 8)), .int (nI (z 9)), .int (nI (z 10)), .int nb, .int (nI (z 12)), .int wa, .long wd, .ref (q 15), .ref (q 16), .ref (q 17), .ref (q 18), .int (nI (z 19)), .int (nI im), .ref (q 21), .long (lN ev), .ref (q 23), .ref (q 24), .int (nI (z 25)), .ref (q 26), .int al, .long wl, .int (nI (z 29))], aI E (q 15) 25 (xF mn ink t dd), aI E (q 18) 75 (wrF (rwF pj) im (xF mn ink t dd) vk)] 0 0 := by
      intro j34
      induction j34 with
      | zero => intro vk hI hM; exact absurd hM (Nat.not_lt_zero _)
      | succ j34 ih34 =>
        intro vk hI34 hM34
        obtain hck := id hI34
        refine v_iload_n X dX8_image_34 rfl 1 rfl ?_
        refine v_bipush X dX8_image_35 (v := nI 25) (by decide) ?_
        refine v_icmpN_ge X dX8_image_37 (tgt := 66) (by decide) (by omega) (by decide) (fun h37 => ?_) (fun h37 => ?_)
        · obtain rfl : vk = 25 := by omega
          refine V.arI 2 rfl (g' := rwF (fun i => if i = im then (ink, mn, t, dd) else pj i)) (fun j _ => wrF_e pj im (ink, mn, t, dd) j) (ws' := [ob k 8 [.int (nI 0), .int (nI tr), .int wh, .ref g, va_rf rr, .ref (q 5), .int (nI (z 6)), .int (nI (z 7)), .int (nI (z 8)), .int (nI (z 9)), .int (nI (z 10)), .int nb, .int (nI (z 12)), .int wa, .long wd, .ref (q 15), .ref (q 16), .ref (q 17), .ref (q 18), .int (nI (z 19)), .int (nI im), .ref (q 21), .long (lN ev), .ref (q 23), .ref (q 24), .int (nI (z 25)), .ref (q 26), .int al, .long wl, .int (nI (z 29))], aI E (q 15) 25 (xF mn ink t dd), aI E (q 18) 75 (rwF (fun i => if i = im then (ink, mn, t, dd) else pj i))]) rfl ?_
          refine v_aload_n X dX8_image_66 rfl 0 rfl ?_
          refine v_dup X dX8_image_67 rfl ?_
          refine v_get X kcX8 fl_X8_314 dX8_image_68 0 rfl rfl ?_
          refine v_iconst X dX8_image_71 (v := nI 1) (by decide) ?_
          refine v_iadd X dX8_image_72 ?_
          refine v_eqi (x' := nI (im + 1)) (nI_add _ _) ?_
          refine v_put X kcX8 fl_X8_314 dX8_image_73 0 rfl (ws' := [ob k 8 [.int (nI 0), .int (nI tr), .int wh, .ref g, va_rf rr, .ref (q 5), .int (nI (z 6)), .int (nI (z 7)), .int (nI (z 8)), .int (nI (z 9)), .int (nI (z 10)), .int nb, .int (nI (z 12)), .int wa, .long wd, .ref (q 15), .ref (q 16), .ref (q 17), .ref (q 18), .int (nI (z 19)), .int (nI (im + 1)), .ref (q 21), .long (lN ev), .ref (q 23), .ref (q 24), .int (nI (z 25)), .ref (q 26), .int al, .long wl, .int (nI (z 29))], aI E (q 15) 25 (xF mn ink t dd), aI E (q 18) 75 (rwF (fun i => if i = im then (ink, mn, t, dd) else pj i))]) rfl rfl ?_
          refine v_aload_n X dX8_image_76 rfl 0 rfl ?_
          refine v_aload_n X dX8_image_77 rfl 0 rfl ?_
          refine v_get X kcX8 fl_X8_314 dX8_image_78 0 rfl rfl ?_
          refine v_iconst X dX8_image_81 (v := nI 1) (by decide) ?_
          refine v_isub X dX8_image_82 ?_
          refine v_eqi (x' := nI ((im + 1) - 1)) (pk_sub (by omega)) ?_
          refine v_wrI1 X (rn_V X k_X8_good ml_X8_53 dX8_image_83 (c_X8_good l E k 0 tr wh g rr q (upN z 20 (im + 1)) nb wa wd ev al wl (nI ((im + 1) - 1)) ) rfl 0 rfl rfl (by decide) (by decide) (by omega) (by omega) (Nat.le_of_ble_eq_true rfl)) [0] rfl rfl (ws' := [ob k 8 [.int (nI 0), .int (nI 0), .int (-1), .ref g, va_rf rr, .ref (q 5), .int (nI (z 6)), .int (nI (z 7)), .int (nI (z 8)), .int (nI (z 9)), .int (nI (z 10)), .int nb, .int (nI (z 12)), .int wa, .long wd, .ref (q 15), .ref (q 16), .ref (q 17), .ref (q 18), .int (nI (z 19)), .int (nI (im + 1)), .ref (q 21), .long (lN ev), .ref (q 23), .ref (q 24), .int (nI (z 25)), .ref (q 26), .int al, .long wl, .int (nI (z 29))], aI E (q 15) 25 (xF mn ink t dd), aI E (q 18) 75 (rwF (fun i => if i = im then (ink, mn, t, dd) else pj i))]) rfl rfl ?_
          exact v_iret X Y dX8_image_86 (wrI_of rfl (rfl)) (by omega) (by omega)
        · refine v_aload_n X dX8_image_40 rfl 0 rfl ?_
          refine v_get X kcX8 fl_X8_27 dX8_image_41 0 rfl rfl ?_
          refine v_bipush X dX8_image_44 (v := nI 25) (by decide) ?_
          refine v_aload_n X dX8_image_46 rfl 0 rfl ?_
          refine v_get X kcX8 fl_X8_314 dX8_image_47 0 rfl rfl ?_
          refine v_imul X dX8_image_50 ?_
          refine v_eqi (x' := nI (25 * im)) (pk_mul _ _) ?_
          refine v_iload_n X dX8_image_51 rfl 1 rfl ?_
          refine v_iadd X dX8_image_52 ?_
          refine v_eqi (x' := nI ((25 * im) + vk)) (nI_add _ _) ?_
          refine v_aload_n X dX8_image_53 rfl 0 rfl ?_
          refine v_get X kcX8 fl_X8_17 dX8_image_54 0 rfl rfl ?_
          refine v_iload_n X dX8_image_57 rfl 1 rfl ?_
          refine v_iald X dX8_image_58 1 rfl (by omega) (by decide) ?_
          refine v_iast X dX8_image_59 2 rfl (by omega) (by decide) (ws' := [ob k 8 [.int (nI 0), .int (nI tr), .int wh, .ref g, va_rf rr, .ref (q 5), .int (nI (z 6)), .int (nI (z 7)), .int (nI (z 8)), .int (nI (z 9)), .int (nI (z 10)), .int nb, .int (nI (z 12)), .int wa, .long wd, .ref (q 15), .ref (q 16), .ref (q 17), .ref (q 18), .int (nI (z 19)), .int (nI im), .ref (q 21), .long (lN ev), .ref (q 23), .ref (q 24), .int (nI (z 25)), .ref (q 26), .int al, .long wl, .int (nI (z 29))], aI E (q 15) 25 (xF mn ink t dd), aI E (q 18) 75 (upd (wrF (rwF pj) im (xF mn ink t dd) vk) ((25 * im) + vk) ((xF mn ink t dd) vk))]) rfl ?_
          refine V.arI 2 rfl (g' := wrF (rwF pj) im (xF mn ink t dd) (vk + 1)) (fun j _ => by rw [wrF_s]) (ws' := [ob k 8 [.int (nI 0), .int (nI tr), .int wh, .ref g, va_rf rr, .ref (q 5), .int (nI (z 6)), .int (nI (z 7)), .int (nI (z 8)), .int (nI (z 9)), .int (nI (z 10)), .int nb, .int (nI (z 12)), .int wa, .long wd, .ref (q 15), .ref (q 16), .ref (q 17), .ref (q 18), .int (nI (z 19)), .int (nI im), .ref (q 21), .long (lN ev), .ref (q 23), .ref (q 24), .int (nI (z 25)), .ref (q 26), .int al, .long wl, .int (nI (z 29))], aI E (q 15) 25 (xF mn ink t dd), aI E (q 18) 75 (wrF (rwF pj) im (xF mn ink t dd) (vk + 1))]) rfl ?_
          refine v_iinc X dX8_image_60 1 rfl (v := nI (vk + 1)) (nI_inc vk) (by decide) (lv' := [(1, .int (nI (vk + 1))), (0, .ref k)]) rfl ?_
          refine v_goto X dX8_image_63 (tgt := 34) (by decide) ?_
          refine V.lvs [1, 0] rfl ?_
          exact ih34 (vk + 1) (by omega) (by omega)
    refine V.lvs [1, 0] rfl ?_
    exact L34 _ 0 (by omega) (Nat.lt_succ_self _)
  · exfalso; omega
set_option maxRecDepth 100000 in
set_option maxHeartbeats 4000000 in
theorem c_X8_image_no3 (l : Launch) (E : Et) (k : Nat) (th : Nat) (tr : Nat) (wh : Int32) (g : Nat) (rr : Option Nat) (q : Nat → Nat) (z : Nat → Nat) (nb : Int32) (wa : Int32) (wd : Int64) (ev : Nat) (al : Int32) (wl : Int64)  : Ct l E yX8_image cX8_image 2 (some .int) 5 0 0 [.ref k] [ob k 8 [.int (nI th), .int (nI tr), .int wh, .ref g, va_rf rr, .ref (q 5), .int (nI (z 6)), .int (nI (z 7)), .int (nI (z 8)), .int (nI (z 9)), .int (nI (z 10)), .int nb, .int (nI (z 12)), .int wa, .long wd, .ref (q 15), .ref (q 16), .ref (q 17), .ref (q 18), .int (nI (z 19)), .int (nI 3), .ref (q 21), .long (lN ev), .ref (q 23), .ref (q 24), .int (nI (z 25)), .ref (q 26), .int al, .long wl, .int (nI (z 29))]] (wrI [ob k 8 [.int (nI 0), .int (nI 3), .int (-1), .ref g, va_rf rr, .ref (q 5), .int (nI (z 6)), .int (nI (z 7)), .int (nI (z 8)), .int (nI (z 9)), .int (nI (z 10)), .int nb, .int (nI (z 12)), .int wa, .long wd, .ref (q 15), .ref (q 16), .ref (q 17), .ref (q 18), .int (nI (z 19)), .int (nI 3), .ref (q 21), .long (lN ev), .ref (q 23), .ref (q 24), .int (nI (z 25)), .ref (q 26), .int al, .long wl, .int (nI (z 29))]] (-1)) := by
  refine Ct.intro (by decide +kernel) (Nat.le_of_ble_eq_true rfl) (lv := [(0, .ref k)]) rfl ?_
  intro Z X Y
  refine v_aload_n X dX8_image_0 rfl 0 rfl ?_
  refine v_iconst X dX8_image_1 (v := nI 0) (by decide) ?_
  refine v_put X kcX8 fl_X8_43 dX8_image_2 0 rfl (ws' := [ob k 8 [.int (nI 0), .int (nI tr), .int wh, .ref g, va_rf rr, .ref (q 5), .int (nI (z 6)), .int (nI (z 7)), .int (nI (z 8)), .int (nI (z 9)), .int (nI (z 10)), .int nb, .int (nI (z 12)), .int wa, .long wd, .ref (q 15), .ref (q 16), .ref (q 17), .ref (q 18), .int (nI (z 19)), .int (nI 3), .ref (q 21), .long (lN ev), .ref (q 23), .ref (q 24), .int (nI (z 25)), .ref (q 26), .int al, .long wl, .int (nI (z 29))]]) rfl rfl ?_
  refine v_aload_n X dX8_image_5 rfl 0 rfl ?_
  refine v_get X kcX8 fl_X8_306 dX8_image_6 0 rfl rfl ?_
  refine v_ifnonnull X dX8_image_9 (tgt := 18) (by decide) ?_
  refine v_aload_n X dX8_image_18 rfl 0 rfl ?_
  refine v_get X kcX8 fl_X8_314 dX8_image_19 0 rfl rfl ?_
  refine v_iconst X dX8_image_22 (v := nI 3) (by decide) ?_
  refine v_icmpN_ne X dX8_image_23 (tgt := 32) (by decide) (by decide) (by decide) (fun h23 => ?_) (fun h23 => ?_)
  · exfalso; omega
  · refine v_aload_n X dX8_image_26 rfl 0 rfl ?_
    refine v_iconst X dX8_image_27 (v := nI 3) (by decide) ?_
    refine v_wrI1 X (rn_V X k_X8_refused ml_X8_49 dX8_image_28 (c_X8_refused l E k 0 tr wh g rr q (upN z 20 3) nb wa wd ev al wl 3 ) rfl 0 rfl rfl (by decide) (by decide) (by omega) (by omega) (Nat.le_of_ble_eq_true rfl)) [0] rfl rfl (ws' := [ob k 8 [.int (nI 0), .int (nI 3), .int (-1), .ref g, va_rf rr, .ref (q 5), .int (nI (z 6)), .int (nI (z 7)), .int (nI (z 8)), .int (nI (z 9)), .int (nI (z 10)), .int nb, .int (nI (z 12)), .int wa, .long wd, .ref (q 15), .ref (q 16), .ref (q 17), .ref (q 18), .int (nI (z 19)), .int (nI 3), .ref (q 21), .long (lN ev), .ref (q 23), .ref (q 24), .int (nI (z 25)), .ref (q 26), .int al, .long wl, .int (nI (z 29))]]) rfl rfl ?_
    exact v_iret X Y dX8_image_31 (wrI_of rfl rfl) (by omega) (by omega)
set_option maxRecDepth 100000 in
set_option maxHeartbeats 4000000 in
theorem c_X8_image_n (l : Launch) (E : Et) (k : Nat) (th : Nat) (tr : Nat) (wh : Int32) (rr : Option Nat) (q : Nat → Nat) (z : Nat → Nat) (nb : Int32) (wa : Int32) (wd : Int64) (ev : Nat) (al : Int32) (wl : Int64)  : Ct l E yX8_image cX8_image 2 (some .int) 5 0 0 [.ref k] [ob k 8 [.int (nI th), .int (nI tr), .int wh, .null, va_rf rr, .ref (q 5), .int (nI (z 6)), .int (nI (z 7)), .int (nI (z 8)), .int (nI (z 9)), .int (nI (z 10)), .int nb, .int (nI (z 12)), .int wa, .long wd, .ref (q 15), .ref (q 16), .ref (q 17), .ref (q 18), .int (nI (z 19)), .int (nI (z 20)), .ref (q 21), .long (lN ev), .ref (q 23), .ref (q 24), .int (nI (z 25)), .ref (q 26), .int al, .long wl, .int (nI (z 29))]] (wrI [ob k 8 [.int (nI 0), .int (nI 1), .int (-1), .null, va_rf rr, .ref (q 5), .int (nI (z 6)), .int (nI (z 7)), .int (nI (z 8)), .int (nI (z 9)), .int (nI (z 10)), .int nb, .int (nI (z 12)), .int wa, .long wd, .ref (q 15), .ref (q 16), .ref (q 17), .ref (q 18), .int (nI (z 19)), .int (nI (z 20)), .ref (q 21), .long (lN ev), .ref (q 23), .ref (q 24), .int (nI (z 25)), .ref (q 26), .int al, .long wl, .int (nI (z 29))]] (-1)) := by
  refine Ct.intro (by decide +kernel) (Nat.le_of_ble_eq_true rfl) (lv := [(0, .ref k)]) rfl ?_
  intro Z X Y
  refine v_aload_n X dX8_image_0 rfl 0 rfl ?_
  refine v_iconst X dX8_image_1 (v := nI 0) (by decide) ?_
  refine v_put X kcX8 fl_X8_43 dX8_image_2 0 rfl (ws' := [ob k 8 [.int (nI 0), .int (nI tr), .int wh, .null, va_rf rr, .ref (q 5), .int (nI (z 6)), .int (nI (z 7)), .int (nI (z 8)), .int (nI (z 9)), .int (nI (z 10)), .int nb, .int (nI (z 12)), .int wa, .long wd, .ref (q 15), .ref (q 16), .ref (q 17), .ref (q 18), .int (nI (z 19)), .int (nI (z 20)), .ref (q 21), .long (lN ev), .ref (q 23), .ref (q 24), .int (nI (z 25)), .ref (q 26), .int al, .long wl, .int (nI (z 29))]]) rfl rfl ?_
  refine v_aload_n X dX8_image_5 rfl 0 rfl ?_
  refine v_get X kcX8 fl_X8_306 dX8_image_6 0 rfl rfl ?_
  refine v_ifnonnullN X dX8_image_9 ?_
  refine v_aload_n X dX8_image_12 rfl 0 rfl ?_
  refine v_iconst X dX8_image_13 (v := nI 1) (by decide) ?_
  refine v_wrI1 X (rn_V X k_X8_refused ml_X8_49 dX8_image_14 (c_X8_refused_n l E k 0 tr wh rr q z nb wa wd ev al wl 1 ) rfl 0 rfl rfl (by decide) (by decide) (by omega) (by omega) (Nat.le_of_ble_eq_true rfl)) [0] rfl rfl (ws' := [ob k 8 [.int (nI 0), .int (nI 1), .int (-1), .null, va_rf rr, .ref (q 5), .int (nI (z 6)), .int (nI (z 7)), .int (nI (z 8)), .int (nI (z 9)), .int (nI (z 10)), .int nb, .int (nI (z 12)), .int wa, .long wd, .ref (q 15), .ref (q 16), .ref (q 17), .ref (q 18), .int (nI (z 19)), .int (nI (z 20)), .ref (q 21), .long (lN ev), .ref (q 23), .ref (q 24), .int (nI (z 25)), .ref (q 26), .int al, .long wl, .int (nI (z 29))]]) rfl rfl ?_
  exact v_iret X Y dX8_image_17 (wrI_of rfl rfl) (by omega) (by omega)
set_option maxRecDepth 100000 in
set_option maxHeartbeats 4000000 in
theorem c_X8_back (l : Launch) (E : Et) (k : Nat) (th : Nat) (tr : Nat) (wh : Int32) (g : Nat) (rr : Option Nat) (q : Nat → Nat) (z : Nat → Nat) (nb : Int32) (wa : Int32) (wd : Int64) (ev : Nat) (al : Int32) (wl : Int64) (ac : Nat) (im : Nat) (vf : Nat → Int32) (pj : Nat → Pv) (i : Nat) (him : im ≤ 3) (hi : i < im) : Ct l E yX8_back cX8_back 3 (some .boolean) 5 0 0 [.ref k, .int (nI i)] [ob k 8 [.int (nI th), .int (nI tr), .int wh, .ref g, va_rf rr, .ref (q 5), .int (nI (z 6)), .int (nI (z 7)), .int (nI (z 8)), .int (nI (z 9)), .int (nI (z 10)), .int nb, .int (nI (z 12)), .int wa, .long wd, .ref (q 15), .ref (q 16), .ref (q 17), .ref (q 18), .int (nI ac), .int (nI im), .ref (q 21), .long (lN ev), .ref (q 23), .ref (q 24), .int (nI (z 25)), .ref (q 26), .int al, .long wl, .int (nI (z 29))], aI E (q 15) 25 vf, aI E (q 18) 75 (rwF pj)] (wrI [ob k 8 [.int (nI 0), .int (nI 0), .int (-1), .ref g, va_rf rr, .ref (q 5), .int (nI (z 6)), .int (nI (z 7)), .int (nI (z 8)), .int (nI (z 9)), .int (nI (z 10)), .int nb, .int (nI (z 12)), .int wa, .long wd, .ref (q 15), .ref (q 16), .ref (q 17), .ref (q 18), .int (nI 0), .int (nI im), .ref (q 21), .long (lN ev), .ref (q 23), .ref (q 24), .int (nI (z 25)), .ref (q 26), .int al, .long wl, .int (nI (z 29))], aI E (q 15) 25 (xF (pj i).2.1 (pj i).1 (pj i).2.2.1 (pj i).2.2.2), aI E (q 18) 75 (rwF pj)] (nI 1)) := by
  refine Ct.intro (by decide +kernel) (Nat.le_of_ble_eq_true rfl) (lv := [(0, .ref k), (1, .int (nI i))]) rfl ?_
  intro Z X Y
  refine v_aload_n X dX8_back_0 rfl 0 rfl ?_
  refine v_iconst X dX8_back_1 (v := nI 0) (by decide) ?_
  refine v_put X kcX8 fl_X8_43 dX8_back_2 0 rfl (ws' := [ob k 8 [.int (nI 0), .int (nI tr), .int wh, .ref g, va_rf rr, .ref (q 5), .int (nI (z 6)), .int (nI (z 7)), .int (nI (z 8)), .int (nI (z 9)), .int (nI (z 10)), .int nb, .int (nI (z 12)), .int wa, .long wd, .ref (q 15), .ref (q 16), .ref (q 17), .ref (q 18), .int (nI ac), .int (nI im), .ref (q 21), .long (lN ev), .ref (q 23), .ref (q 24), .int (nI (z 25)), .ref (q 26), .int al, .long wl, .int (nI (z 29))], aI E (q 15) 25 vf, aI E (q 18) 75 (rwF pj)]) rfl rfl ?_
  refine v_aload_n X dX8_back_5 rfl 0 rfl ?_
  refine v_get X kcX8 fl_X8_306 dX8_back_6 0 rfl rfl ?_
  refine v_ifnull X dX8_back_9 ?_
  refine v_iload_n X dX8_back_12 rfl 1 rfl ?_
  refine v_if_lt X dX8_back_13 (tgt := 24) (by decide) (fun h13 => ?_) (fun h13 => ?_)
  · exact absurd h13 (nI_pos (by omega))
  · refine v_iload_n X dX8_back_16 rfl 1 rfl ?_
    refine v_aload_n X dX8_back_17 rfl 0 rfl ?_
    refine v_get X kcX8 fl_X8_314 dX8_back_18 0 rfl rfl ?_
    refine v_icmpN_lt X dX8_back_21 (tgt := 30) (by decide) (by omega) (by omega) (fun h21 => ?_) (fun h21 => ?_)
    · refine v_iconst X dX8_back_30 (v := nI 0) (by decide) ?_
      refine v_istore_n X dX8_back_31 rfl (by decide) (lv' := [(2, .int (nI 0)), (0, .ref k), (1, .int (nI i))]) rfl ?_
      have L32 : ∀ (j32 : Nat) (vk : Nat) (vg : Nat → Int32), (vk ≤ 25 ∧ ∀ j, j < vk → vg j = xF (pj i).2.1 (pj i).1 (pj i).2.2.1 (pj i).2.2.2 j) → 25 - vk < j32 → V E Z 32 [(0, .ref k), (1, .int (nI i)), (2, .int (nI vk))] [] [ob k 8 [.int (nI 0), .int (nI tr), .int wh, .ref g, va_rf rr, .ref (q 5), .int (nI (z 6)), .int (nI (z 7)), .int (nI (z 8)), .int (nI (z 9)), .int (nI (z 10)), .int nb, .int (nI (z 12)), .int wa, .long wd, .ref (q 15), .ref (q 16), .ref (q 17), .ref (q 18), .int (nI ac), .int (nI im), .ref (q 21), .long (lN ev), .ref (q 23), .ref (q 24), .int (nI (z 25)), .ref (q 26), .int al, .long wl, .int (nI (z 29))], aI E (q 15) 25 vg, aI E (q 18) 75 (rwF pj)] 0 0 := by
        intro j32
        induction j32 with
        | zero => intro vk vg hI hM; exact absurd hM (Nat.not_lt_zero _)
        | succ j32 ih32 =>
          intro vk vg hI32 hM32
          obtain ⟨hck, hg⟩ := id hI32
          refine v_iload_n X dX8_back_32 rfl 2 rfl ?_
          refine v_bipush X dX8_back_33 (v := nI 25) (by decide) ?_
          refine v_icmpN_ge X dX8_back_35 (tgt := 61) (by decide) (by omega) (by decide) (fun h35 => ?_) (fun h35 => ?_)
          · refine V.arI 1 rfl (g' := xF (pj i).2.1 (pj i).1 (pj i).2.2.1 (pj i).2.2.2) (fun j hj => hg j (by omega)) (ws' := [ob k 8 [.int (nI 0), .int (nI tr), .int wh, .ref g, va_rf rr, .ref (q 5), .int (nI (z 6)), .int (nI (z 7)), .int (nI (z 8)), .int (nI (z 9)), .int (nI (z 10)), .int nb, .int (nI (z 12)), .int wa, .long wd, .ref (q 15), .ref (q 16), .ref (q 17), .ref (q 18), .int (nI ac), .int (nI im), .ref (q 21), .long (lN ev), .ref (q 23), .ref (q 24), .int (nI (z 25)), .ref (q 26), .int al, .long wl, .int (nI (z 29))], aI E (q 15) 25 (xF (pj i).2.1 (pj i).1 (pj i).2.2.1 (pj i).2.2.2), aI E (q 18) 75 (rwF pj)]) rfl ?_
            refine v_aload_n X dX8_back_61 rfl 0 rfl ?_
            refine v_iconst X dX8_back_62 (v := nI 0) (by decide) ?_
            refine v_put X kcX8 fl_X8_311 dX8_back_63 0 rfl (ws' := [ob k 8 [.int (nI 0), .int (nI tr), .int wh, .ref g, va_rf rr, .ref (q 5), .int (nI (z 6)), .int (nI (z 7)), .int (nI (z 8)), .int (nI (z 9)), .int (nI (z 10)), .int nb, .int (nI (z 12)), .int wa, .long wd, .ref (q 15), .ref (q 16), .ref (q 17), .ref (q 18), .int (nI 0), .int (nI im), .ref (q 21), .long (lN ev), .ref (q 23), .ref (q 24), .int (nI (z 25)), .ref (q 26), .int al, .long wl, .int (nI (z 29))], aI E (q 15) 25 (xF (pj i).2.1 (pj i).1 (pj i).2.2.1 (pj i).2.2.2), aI E (q 18) 75 (rwF pj)]) rfl rfl ?_
            refine v_aload_n X dX8_back_66 rfl 0 rfl ?_
            refine v_wrI1 X (rn_V X k_X8_granted ml_X8_478 dX8_back_67 (c_X8_granted l E k 0 tr wh g rr q (upN (upN z 19 0) 20 im) nb wa wd ev al wl ) rfl 0 rfl rfl (by decide) (by decide) (by omega) (by omega) (Nat.le_of_ble_eq_true rfl)) [0] rfl rfl (ws' := [ob k 8 [.int (nI 0), .int (nI 0), .int (-1), .ref g, va_rf rr, .ref (q 5), .int (nI (z 6)), .int (nI (z 7)), .int (nI (z 8)), .int (nI (z 9)), .int (nI (z 10)), .int nb, .int (nI (z 12)), .int wa, .long wd, .ref (q 15), .ref (q 16), .ref (q 17), .ref (q 18), .int (nI 0), .int (nI im), .ref (q 21), .long (lN ev), .ref (q 23), .ref (q 24), .int (nI (z 25)), .ref (q 26), .int al, .long wl, .int (nI (z 29))], aI E (q 15) 25 (xF (pj i).2.1 (pj i).1 (pj i).2.2.1 (pj i).2.2.2), aI E (q 18) 75 (rwF pj)]) rfl rfl ?_
            exact v_zret X Y dX8_back_70 (by decide) (wrI_of rfl rfl) (by omega) (by omega)
          · refine v_aload_n X dX8_back_38 rfl 0 rfl ?_
            refine v_get X kcX8 fl_X8_17 dX8_back_39 0 rfl rfl ?_
            refine v_iload_n X dX8_back_42 rfl 2 rfl ?_
            refine v_aload_n X dX8_back_43 rfl 0 rfl ?_
            refine v_get X kcX8 fl_X8_27 dX8_back_44 0 rfl rfl ?_
            refine v_bipush X dX8_back_47 (v := nI 25) (by decide) ?_
            refine v_iload_n X dX8_back_49 rfl 1 rfl ?_
            refine v_imul X dX8_back_50 ?_
            refine v_eqi (x' := nI (25 * i)) (pk_mul _ _) ?_
            refine v_iload_n X dX8_back_51 rfl 2 rfl ?_
            refine v_iadd X dX8_back_52 ?_
            refine v_eqi (x' := nI ((25 * i) + vk)) (nI_add _ _) ?_
            refine v_iald X dX8_back_53 2 rfl (by omega) (by decide) ?_
            refine v_iast X dX8_back_54 1 rfl (by omega) (by decide) (ws' := [ob k 8 [.int (nI 0), .int (nI tr), .int wh, .ref g, va_rf rr, .ref (q 5), .int (nI (z 6)), .int (nI (z 7)), .int (nI (z 8)), .int (nI (z 9)), .int (nI (z 10)), .int nb, .int (nI (z 12)), .int wa, .long wd, .ref (q 15), .ref (q 16), .ref (q 17), .ref (q 18), .int (nI ac), .int (nI im), .ref (q 21), .long (lN ev), .ref (q 23), .ref (q 24), .int (nI (z 25)), .ref (q 26), .int al, .long wl, .int (nI (z 29))], aI E (q 15) 25 (upd vg vk ((rwF pj) ((25 * i) + vk))), aI E (q 18) 75 (rwF pj)]) rfl ?_
            refine v_iinc X dX8_back_55 2 rfl (v := nI (vk + 1)) (nI_inc vk) (by decide) (lv' := [(2, .int (nI (vk + 1))), (0, .ref k), (1, .int (nI i))]) rfl ?_
            refine v_goto X dX8_back_58 (tgt := 32) (by decide) ?_
            refine V.lvs [1, 2, 0] rfl ?_
            exact ih32 (vk + 1) (upd vg vk ((rwF pj) ((25 * i) + vk))) (⟨by omega, fillI hg (rw_at pj (a := i) (by omega))⟩) (by omega)
      refine V.lvs [1, 2, 0] rfl ?_
      exact L32 _ 0 vf (⟨by omega, fun j hj => absurd hj (Nat.not_lt_zero j)⟩) (Nat.lt_succ_self _)
    · exfalso; omega
set_option maxRecDepth 100000 in
set_option maxHeartbeats 4000000 in
theorem c_X8_back_no (l : Launch) (E : Et) (k : Nat) (th : Nat) (tr : Nat) (wh : Int32) (g : Nat) (rr : Option Nat) (q : Nat → Nat) (z : Nat → Nat) (nb : Int32) (wa : Int32) (wd : Int64) (ev : Nat) (al : Int32) (wl : Int64) (im : Nat) (i : Int32) (hno : ¬ okM i im) : Ct l E yX8_back cX8_back 3 (some .boolean) 5 0 0 [.ref k, .int i] [ob k 8 [.int (nI th), .int (nI tr), .int wh, .ref g, va_rf rr, .ref (q 5), .int (nI (z 6)), .int (nI (z 7)), .int (nI (z 8)), .int (nI (z 9)), .int (nI (z 10)), .int nb, .int (nI (z 12)), .int wa, .long wd, .ref (q 15), .ref (q 16), .ref (q 17), .ref (q 18), .int (nI (z 19)), .int (nI im), .ref (q 21), .long (lN ev), .ref (q 23), .ref (q 24), .int (nI (z 25)), .ref (q 26), .int al, .long wl, .int (nI (z 29))]] (wrI [ob k 8 [.int (nI 0), .int (nI 1), .int (-1), .ref g, va_rf rr, .ref (q 5), .int (nI (z 6)), .int (nI (z 7)), .int (nI (z 8)), .int (nI (z 9)), .int (nI (z 10)), .int nb, .int (nI (z 12)), .int wa, .long wd, .ref (q 15), .ref (q 16), .ref (q 17), .ref (q 18), .int (nI (z 19)), .int (nI im), .ref (q 21), .long (lN ev), .ref (q 23), .ref (q 24), .int (nI (z 25)), .ref (q 26), .int al, .long wl, .int (nI (z 29))]] (nI 0)) := by
  refine Ct.intro (by decide +kernel) (Nat.le_of_ble_eq_true rfl) (lv := [(0, .ref k), (1, .int i)]) rfl ?_
  intro Z X Y
  refine v_aload_n X dX8_back_0 rfl 0 rfl ?_
  refine v_iconst X dX8_back_1 (v := nI 0) (by decide) ?_
  refine v_put X kcX8 fl_X8_43 dX8_back_2 0 rfl (ws' := [ob k 8 [.int (nI 0), .int (nI tr), .int wh, .ref g, va_rf rr, .ref (q 5), .int (nI (z 6)), .int (nI (z 7)), .int (nI (z 8)), .int (nI (z 9)), .int (nI (z 10)), .int nb, .int (nI (z 12)), .int wa, .long wd, .ref (q 15), .ref (q 16), .ref (q 17), .ref (q 18), .int (nI (z 19)), .int (nI im), .ref (q 21), .long (lN ev), .ref (q 23), .ref (q 24), .int (nI (z 25)), .ref (q 26), .int al, .long wl, .int (nI (z 29))]]) rfl rfl ?_
  refine v_aload_n X dX8_back_5 rfl 0 rfl ?_
  refine v_get X kcX8 fl_X8_306 dX8_back_6 0 rfl rfl ?_
  refine v_ifnull X dX8_back_9 ?_
  refine v_iload_n X dX8_back_12 rfl 1 rfl ?_
  refine v_if_lt X dX8_back_13 (tgt := 24) (by decide) (fun h13 => ?_) (fun h13 => ?_)
  · refine v_aload_n X dX8_back_24 rfl 0 rfl ?_
    refine v_iconst X dX8_back_25 (v := nI 1) (by decide) ?_
    refine v_wrI1 X (rn_V X k_X8_denied ml_X8_475 dX8_back_26 (c_X8_denied l E k 0 tr wh g rr q (upN z 20 im) nb wa wd ev al wl 1 ) rfl 0 rfl rfl (by decide) (by decide) (by omega) (by omega) (Nat.le_of_ble_eq_true rfl)) [0] rfl rfl (ws' := [ob k 8 [.int (nI 0), .int (nI 1), .int (-1), .ref g, va_rf rr, .ref (q 5), .int (nI (z 6)), .int (nI (z 7)), .int (nI (z 8)), .int (nI (z 9)), .int (nI (z 10)), .int nb, .int (nI (z 12)), .int wa, .long wd, .ref (q 15), .ref (q 16), .ref (q 17), .ref (q 18), .int (nI (z 19)), .int (nI im), .ref (q 21), .long (lN ev), .ref (q 23), .ref (q 24), .int (nI (z 25)), .ref (q 26), .int al, .long wl, .int (nI (z 29))]]) rfl rfl ?_
    exact v_zret X Y dX8_back_29 (by decide) (wrI_of rfl rfl) (by omega) (by omega)
  · refine v_iload_n X dX8_back_16 rfl 1 rfl ?_
    refine v_aload_n X dX8_back_17 rfl 0 rfl ?_
    refine v_get X kcX8 fl_X8_314 dX8_back_18 0 rfl rfl ?_
    refine v_icmp_lt X dX8_back_21 (tgt := 30) (by decide) (fun h21 => ?_) (fun h21 => ?_)
    · exact absurd ⟨Int32.not_lt.mp h13, h21⟩ hno
    · refine v_aload_n X dX8_back_24 rfl 0 rfl ?_
      refine v_iconst X dX8_back_25 (v := nI 1) (by decide) ?_
      refine v_wrI1 X (rn_V X k_X8_denied ml_X8_475 dX8_back_26 (c_X8_denied l E k 0 tr wh g rr q (upN z 20 im) nb wa wd ev al wl 1 ) rfl 0 rfl rfl (by decide) (by decide) (by omega) (by omega) (Nat.le_of_ble_eq_true rfl)) [0] rfl rfl (ws' := [ob k 8 [.int (nI 0), .int (nI 1), .int (-1), .ref g, va_rf rr, .ref (q 5), .int (nI (z 6)), .int (nI (z 7)), .int (nI (z 8)), .int (nI (z 9)), .int (nI (z 10)), .int nb, .int (nI (z 12)), .int wa, .long wd, .ref (q 15), .ref (q 16), .ref (q 17), .ref (q 18), .int (nI (z 19)), .int (nI im), .ref (q 21), .long (lN ev), .ref (q 23), .ref (q 24), .int (nI (z 25)), .ref (q 26), .int al, .long wl, .int (nI (z 29))]]) rfl rfl ?_
      exact v_zret X Y dX8_back_29 (by decide) (wrI_of rfl rfl) (by omega) (by omega)
set_option maxRecDepth 100000 in
set_option maxHeartbeats 4000000 in
theorem c_X8_back_n (l : Launch) (E : Et) (k : Nat) (th : Nat) (tr : Nat) (wh : Int32) (rr : Option Nat) (q : Nat → Nat) (z : Nat → Nat) (nb : Int32) (wa : Int32) (wd : Int64) (ev : Nat) (al : Int32) (wl : Int64) (i : Int32)  : Ct l E yX8_back cX8_back 3 (some .boolean) 5 0 0 [.ref k, .int i] [ob k 8 [.int (nI th), .int (nI tr), .int wh, .null, va_rf rr, .ref (q 5), .int (nI (z 6)), .int (nI (z 7)), .int (nI (z 8)), .int (nI (z 9)), .int (nI (z 10)), .int nb, .int (nI (z 12)), .int wa, .long wd, .ref (q 15), .ref (q 16), .ref (q 17), .ref (q 18), .int (nI (z 19)), .int (nI (z 20)), .ref (q 21), .long (lN ev), .ref (q 23), .ref (q 24), .int (nI (z 25)), .ref (q 26), .int al, .long wl, .int (nI (z 29))]] (wrI [ob k 8 [.int (nI 0), .int (nI 1), .int (-1), .null, va_rf rr, .ref (q 5), .int (nI (z 6)), .int (nI (z 7)), .int (nI (z 8)), .int (nI (z 9)), .int (nI (z 10)), .int nb, .int (nI (z 12)), .int wa, .long wd, .ref (q 15), .ref (q 16), .ref (q 17), .ref (q 18), .int (nI (z 19)), .int (nI (z 20)), .ref (q 21), .long (lN ev), .ref (q 23), .ref (q 24), .int (nI (z 25)), .ref (q 26), .int al, .long wl, .int (nI (z 29))]] (nI 0)) := by
  refine Ct.intro (by decide +kernel) (Nat.le_of_ble_eq_true rfl) (lv := [(0, .ref k), (1, .int i)]) rfl ?_
  intro Z X Y
  refine v_aload_n X dX8_back_0 rfl 0 rfl ?_
  refine v_iconst X dX8_back_1 (v := nI 0) (by decide) ?_
  refine v_put X kcX8 fl_X8_43 dX8_back_2 0 rfl (ws' := [ob k 8 [.int (nI 0), .int (nI tr), .int wh, .null, va_rf rr, .ref (q 5), .int (nI (z 6)), .int (nI (z 7)), .int (nI (z 8)), .int (nI (z 9)), .int (nI (z 10)), .int nb, .int (nI (z 12)), .int wa, .long wd, .ref (q 15), .ref (q 16), .ref (q 17), .ref (q 18), .int (nI (z 19)), .int (nI (z 20)), .ref (q 21), .long (lN ev), .ref (q 23), .ref (q 24), .int (nI (z 25)), .ref (q 26), .int al, .long wl, .int (nI (z 29))]]) rfl rfl ?_
  refine v_aload_n X dX8_back_5 rfl 0 rfl ?_
  refine v_get X kcX8 fl_X8_306 dX8_back_6 0 rfl rfl ?_
  refine v_ifnullN X dX8_back_9 (tgt := 24) (by decide) ?_
  refine v_aload_n X dX8_back_24 rfl 0 rfl ?_
  refine v_iconst X dX8_back_25 (v := nI 1) (by decide) ?_
  refine v_wrI1 X (rn_V X k_X8_denied ml_X8_475 dX8_back_26 (c_X8_denied_n l E k 0 tr wh rr q z nb wa wd ev al wl 1 ) rfl 0 rfl rfl (by decide) (by decide) (by omega) (by omega) (Nat.le_of_ble_eq_true rfl)) [0] rfl rfl (ws' := [ob k 8 [.int (nI 0), .int (nI 1), .int (-1), .null, va_rf rr, .ref (q 5), .int (nI (z 6)), .int (nI (z 7)), .int (nI (z 8)), .int (nI (z 9)), .int (nI (z 10)), .int nb, .int (nI (z 12)), .int wa, .long wd, .ref (q 15), .ref (q 16), .ref (q 17), .ref (q 18), .int (nI (z 19)), .int (nI (z 20)), .ref (q 21), .long (lN ev), .ref (q 23), .ref (q 24), .int (nI (z 25)), .ref (q 26), .int al, .long wl, .int (nI (z 29))]]) rfl rfl ?_
  exact v_zret X Y dX8_back_29 (by decide) (wrI_of rfl rfl) (by omega) (by omega)
set_option maxRecDepth 100000 in
set_option maxHeartbeats 4000000 in
theorem c_X8_led (l : Launch) (E : Et) (k : Nat) (th : Nat) (tr : Nat) (wh : Int32) (g : Nat) (rr : Option Nat) (q : Nat → Nat) (z : Nat → Nat) (nb : Int32) (wa : Int32) (wd : Int64) (ev : Nat) (al : Int32) (wl : Int64) (cy : Nat → Nat) (kp : Nat) (nc : Nat) (cb : Nat → Nat) (mn : Nat → Int32) (ink : Nat → Nat) (t : Nat) (dd : Nat) (i : Int32) (hcl : cy 5 ≤ 8) (hink : ∀ c, ink c ≤ 40) : Ct l E yX8_led cX8_led 4 (some .int) 5 0 0 [.ref k, .int i] [ob k 8 [.int (nI th), .int (nI tr), .int wh, .ref g, va_rf rr, .ref (q 5), .int (nI (z 6)), .int (nI (z 7)), .int (nI (z 8)), .int (nI (z 9)), .int (nI (z 10)), .int nb, .int (nI (z 12)), .int wa, .long wd, .ref (q 15), .ref (q 16), .ref (q 17), .ref (q 18), .int (nI (z 19)), .int (nI (z 20)), .ref (q 21), .long (lN ev), .ref (q 23), .ref (q 24), .int (nI (z 25)), .ref (q 26), .int al, .long wl, .int (nI (z 29))], ob g 7 [.int (nI (cy 0)), .int (nI (cy 1)), .int (nI (cy 2)), .int (nI (cy 3)), .int (nI (cy 4)), .int (nI (cy 5)), .int (nI (cy 6)), .int (nI (cy 7)), .int (nI kp), .int (nI nc), .ref (cb 0), .ref (cb 1), .ref (cb 2), .ref (cb 3), .ref (cb 4), .ref (cb 5), .ref (cb 6), .ref (cb 7), .ref (cb 8), .ref (cb 9), .ref (cb 10), .ref (cb 11)], aI E (q 15) 25 (xF mn ink t dd)] (wrI [ob k 8 [.int (nI (if kth (fun c => decide (ink c = 0)) i (cy 5) 0 0 = (-1) then 1 else 0)), .int (nI tr), .int wh, .ref g, va_rf rr, .ref (q 5), .int (nI (z 6)), .int (nI (z 7)), .int (nI (z 8)), .int (nI (z 9)), .int (nI (z 10)), .int nb, .int (nI (z 12)), .int wa, .long wd, .ref (q 15), .ref (q 16), .ref (q 17), .ref (q 18), .int (nI (z 19)), .int (nI (z 20)), .ref (q 21), .long (lN ev), .ref (q 23), .ref (q 24), .int (nI (z 25)), .ref (q 26), .int al, .long wl, .int (nI (z 29))], ob g 7 [.int (nI (cy 0)), .int (nI (cy 1)), .int (nI (cy 2)), .int (nI (cy 3)), .int (nI (cy 4)), .int (nI (cy 5)), .int (nI (cy 6)), .int (nI (cy 7)), .int (nI kp), .int (nI nc), .ref (cb 0), .ref (cb 1), .ref (cb 2), .ref (cb 3), .ref (cb 4), .ref (cb 5), .ref (cb 6), .ref (cb 7), .ref (cb 8), .ref (cb 9), .ref (cb 10), .ref (cb 11)], aI E (q 15) 25 (xF mn ink t dd)] (if kth (fun c => decide (ink c = 0)) i (cy 5) 0 0 = (-1) then 0 else kth (fun c => decide (ink c = 0)) i (cy 5) 0 0)) := by
  refine Ct.intro (by decide +kernel) (Nat.le_of_ble_eq_true rfl) (lv := [(0, .ref k), (1, .int i)]) rfl ?_
  intro Z X Y
  refine v_aload_n X dX8_led_0 rfl 0 rfl ?_
  refine v_iconst X dX8_led_1 (v := nI 0) (by decide) ?_
  refine v_put X kcX8 fl_X8_43 dX8_led_2 0 rfl (ws' := [ob k 8 [.int (nI 0), .int (nI tr), .int wh, .ref g, va_rf rr, .ref (q 5), .int (nI (z 6)), .int (nI (z 7)), .int (nI (z 8)), .int (nI (z 9)), .int (nI (z 10)), .int nb, .int (nI (z 12)), .int wa, .long wd, .ref (q 15), .ref (q 16), .ref (q 17), .ref (q 18), .int (nI (z 19)), .int (nI (z 20)), .ref (q 21), .long (lN ev), .ref (q 23), .ref (q 24), .int (nI (z 25)), .ref (q 26), .int al, .long wl, .int (nI (z 29))], ob g 7 [.int (nI (cy 0)), .int (nI (cy 1)), .int (nI (cy 2)), .int (nI (cy 3)), .int (nI (cy 4)), .int (nI (cy 5)), .int (nI (cy 6)), .int (nI (cy 7)), .int (nI kp), .int (nI nc), .ref (cb 0), .ref (cb 1), .ref (cb 2), .ref (cb 3), .ref (cb 4), .ref (cb 5), .ref (cb 6), .ref (cb 7), .ref (cb 8), .ref (cb 9), .ref (cb 10), .ref (cb 11)], aI E (q 15) 25 (xF mn ink t dd)]) rfl rfl ?_
  refine v_iconst X dX8_led_5 (v := nI 0) (by decide) ?_
  refine v_istore_n X dX8_led_6 rfl (by decide) (lv' := [(2, .int (nI 0)), (0, .ref k), (1, .int i)]) rfl ?_
  refine v_iconst X dX8_led_7 (v := nI 0) (by decide) ?_
  refine v_istore_n X dX8_led_8 rfl (by decide) (lv' := [(3, .int (nI 0)), (2, .int (nI 0)), (0, .ref k), (1, .int i)]) rfl ?_
  have L9 : ∀ (j9 : Nat) (vc : Nat) (vn : Nat), (vc ≤ cy 5 ∧ kth (fun c => decide (ink c = 0)) i (cy 5) 0 0 = kth (fun c => decide (ink c = 0)) i (cy 5 - vc) vc vn) → cy 5 - vc < j9 → V E Z 9 [(0, .ref k), (1, .int i), (2, .int (nI vn)), (3, .int (nI vc))] [] [ob k 8 [.int (nI 0), .int (nI tr), .int wh, .ref g, va_rf rr, .ref (q 5), .int (nI (z 6)), .int (nI (z 7)), .int (nI (z 8)), .int (nI (z 9)), .int (nI (z 10)), .int nb, .int (nI (z 12)), .int wa, .long wd, .ref (q 15), .ref (q 16), .ref (q 17), .ref (q 18), .int (nI (z 19)), .int (nI (z 20)), .ref (q 21), .long (lN ev), .ref (q 23), .ref (q 24), .int (nI (z 25)), .ref (q 26), .int al, .long wl, .int (nI (z 29))], ob g 7 [.int (nI (cy 0)), .int (nI (cy 1)), .int (nI (cy 2)), .int (nI (cy 3)), .int (nI (cy 4)), .int (nI (cy 5)), .int (nI (cy 6)), .int (nI (cy 7)), .int (nI kp), .int (nI nc), .ref (cb 0), .ref (cb 1), .ref (cb 2), .ref (cb 3), .ref (cb 4), .ref (cb 5), .ref (cb 6), .ref (cb 7), .ref (cb 8), .ref (cb 9), .ref (cb 10), .ref (cb 11)], aI E (q 15) 25 (xF mn ink t dd)] 0 0 := by
    intro j9
    induction j9 with
    | zero => intro vc vn hI hM; exact absurd hM (Nat.not_lt_zero _)
    | succ j9 ih9 =>
      intro vc vn hI9 hM9
      obtain ⟨hc, hq⟩ := id hI9
      refine v_aload_n X dX8_led_9 rfl 0 rfl ?_
      refine v_get X kcX8 fl_X8_306 dX8_led_10 0 rfl rfl ?_
      refine v_ifnull X dX8_led_13 ?_
      refine v_iload_n X dX8_led_16 rfl 3 rfl ?_
      refine v_aload_n X dX8_led_17 rfl 0 rfl ?_
      refine v_get X kcX8 fl_X8_306 dX8_led_18 0 rfl rfl ?_
      refine v_getN X kcX7 fl_X8_240 dX8_led_21 1 rfl rfl ?_
      refine v_icmpN_ge X dX8_led_24 (tgt := 58) (by decide) (by omega) (by omega) (fun h24 => ?_) (fun h24 => ?_)
      · refine v_aload_n X dX8_led_58 rfl 0 rfl ?_
        refine v_iconst X dX8_led_59 (v := nI 1) (by decide) ?_
        refine v_put X kcX8 fl_X8_43 dX8_led_60 0 rfl (ws' := [ob k 8 [.int (nI 1), .int (nI tr), .int wh, .ref g, va_rf rr, .ref (q 5), .int (nI (z 6)), .int (nI (z 7)), .int (nI (z 8)), .int (nI (z 9)), .int (nI (z 10)), .int nb, .int (nI (z 12)), .int wa, .long wd, .ref (q 15), .ref (q 16), .ref (q 17), .ref (q 18), .int (nI (z 19)), .int (nI (z 20)), .ref (q 21), .long (lN ev), .ref (q 23), .ref (q 24), .int (nI (z 25)), .ref (q 26), .int al, .long wl, .int (nI (z 29))], ob g 7 [.int (nI (cy 0)), .int (nI (cy 1)), .int (nI (cy 2)), .int (nI (cy 3)), .int (nI (cy 4)), .int (nI (cy 5)), .int (nI (cy 6)), .int (nI (cy 7)), .int (nI kp), .int (nI nc), .ref (cb 0), .ref (cb 1), .ref (cb 2), .ref (cb 3), .ref (cb 4), .ref (cb 5), .ref (cb 6), .ref (cb 7), .ref (cb 8), .ref (cb 9), .ref (cb 10), .ref (cb 11)], aI E (q 15) 25 (xF mn ink t dd)]) rfl rfl ?_
        refine v_iconst X dX8_led_63 (v := nI 0) (by decide) ?_
        exact v_iret X Y dX8_led_64 (wrI_of (by rw [hq, show cy 5 - vc = 0 by omega]; rfl) (by rw [hq, show cy 5 - vc = 0 by omega]; rfl)) (by omega) (by omega)
      · refine v_aload_n X dX8_led_27 rfl 0 rfl ?_
        refine v_get X kcX8 fl_X8_17 dX8_led_28 0 rfl rfl ?_
        refine v_bipush X dX8_led_31 (v := nI 8) (by decide) ?_
        refine v_iload_n X dX8_led_33 rfl 3 rfl ?_
        refine v_iadd X dX8_led_34 ?_
        refine v_eqi (x' := nI (8 + vc)) (nI_add _ _) ?_
        refine v_iald X dX8_led_35 2 rfl (by omega) (by decide) ?_
        refine v_eqi (x' := nI (ink vc)) (xF_i (by omega)) ?_
        refine v_ifN_le X dX8_led_36 (tgt := 42) (by decide) (Nat.lt_of_le_of_lt (hink _) (by decide)) (fun h36 => ?_) (fun h36 => ?_)
        · refine v_iload_n X dX8_led_42 rfl 2 rfl ?_
          refine v_iload_n X dX8_led_43 rfl 1 rfl ?_
          refine v_icmp_ne X dX8_led_44 (tgt := 49) (by decide) (fun h44 => ?_) (fun h44 => ?_)
          · refine v_iinc X dX8_led_49 2 rfl (v := nI (vn + 1)) (nI_inc vn) (by decide) (lv' := [(2, .int (nI (vn + 1))), (0, .ref k), (1, .int i), (3, .int (nI vc))]) rfl ?_
            refine v_iinc X dX8_led_52 3 rfl (v := nI (vc + 1)) (nI_inc vc) (by decide) (lv' := [(3, .int (nI (vc + 1))), (2, .int (nI (vn + 1))), (0, .ref k), (1, .int i)]) rfl ?_
            refine v_goto X dX8_led_55 (tgt := 9) (by decide) ?_
            refine V.lvs [2, 3, 1, 0] rfl ?_
            exact ih9 (vc + 1) (vn + 1) (⟨by omega, hq.trans (kth_skip (by omega) (decide_eq_true (by omega)) h44)⟩) (by omega)
          · refine v_iload_n X dX8_led_47 rfl 3 rfl ?_
            exact v_iret X Y dX8_led_48 (wrI_of (by rw [hq, kth_hit (by omega) (decide_eq_true (by omega)) h44, if_neg (fun q => nm1 q (by omega))]) (by rw [hq, kth_hit (by omega) (decide_eq_true (by omega)) h44, if_neg (fun q => nm1 q (by omega))])) (by omega) (by omega)
        · refine v_goto X dX8_led_39 (tgt := 52) (by decide) ?_
          refine v_iinc X dX8_led_52 3 rfl (v := nI (vc + 1)) (nI_inc vc) (by decide) (lv' := [(3, .int (nI (vc + 1))), (0, .ref k), (1, .int i), (2, .int (nI vn))]) rfl ?_
          refine v_goto X dX8_led_55 (tgt := 9) (by decide) ?_
          refine V.lvs [1, 2, 3, 0] rfl ?_
          exact ih9 (vc + 1) vn (⟨by omega, hq.trans (kth_no (by omega) (decide_eq_false (by omega)))⟩) (by omega)
  refine V.lvs [2, 3, 1, 0] rfl ?_
  exact L9 _ 0 0 (⟨by omega, rfl⟩) (Nat.lt_succ_self _)
set_option maxRecDepth 100000 in
set_option maxHeartbeats 4000000 in
theorem c_X8_led_n (l : Launch) (E : Et) (k : Nat) (th : Nat) (tr : Nat) (wh : Int32) (rr : Option Nat) (q : Nat → Nat) (z : Nat → Nat) (nb : Int32) (wa : Int32) (wd : Int64) (ev : Nat) (al : Int32) (wl : Int64) (i : Int32)  : Ct l E yX8_led cX8_led 4 (some .int) 5 0 0 [.ref k, .int i] [ob k 8 [.int (nI th), .int (nI tr), .int wh, .null, va_rf rr, .ref (q 5), .int (nI (z 6)), .int (nI (z 7)), .int (nI (z 8)), .int (nI (z 9)), .int (nI (z 10)), .int nb, .int (nI (z 12)), .int wa, .long wd, .ref (q 15), .ref (q 16), .ref (q 17), .ref (q 18), .int (nI (z 19)), .int (nI (z 20)), .ref (q 21), .long (lN ev), .ref (q 23), .ref (q 24), .int (nI (z 25)), .ref (q 26), .int al, .long wl, .int (nI (z 29))]] (wrI [ob k 8 [.int (nI 1), .int (nI tr), .int wh, .null, va_rf rr, .ref (q 5), .int (nI (z 6)), .int (nI (z 7)), .int (nI (z 8)), .int (nI (z 9)), .int (nI (z 10)), .int nb, .int (nI (z 12)), .int wa, .long wd, .ref (q 15), .ref (q 16), .ref (q 17), .ref (q 18), .int (nI (z 19)), .int (nI (z 20)), .ref (q 21), .long (lN ev), .ref (q 23), .ref (q 24), .int (nI (z 25)), .ref (q 26), .int al, .long wl, .int (nI (z 29))]] 0) := by
  refine Ct.intro (by decide +kernel) (Nat.le_of_ble_eq_true rfl) (lv := [(0, .ref k), (1, .int i)]) rfl ?_
  intro Z X Y
  refine v_aload_n X dX8_led_0 rfl 0 rfl ?_
  refine v_iconst X dX8_led_1 (v := nI 0) (by decide) ?_
  refine v_put X kcX8 fl_X8_43 dX8_led_2 0 rfl (ws' := [ob k 8 [.int (nI 0), .int (nI tr), .int wh, .null, va_rf rr, .ref (q 5), .int (nI (z 6)), .int (nI (z 7)), .int (nI (z 8)), .int (nI (z 9)), .int (nI (z 10)), .int nb, .int (nI (z 12)), .int wa, .long wd, .ref (q 15), .ref (q 16), .ref (q 17), .ref (q 18), .int (nI (z 19)), .int (nI (z 20)), .ref (q 21), .long (lN ev), .ref (q 23), .ref (q 24), .int (nI (z 25)), .ref (q 26), .int al, .long wl, .int (nI (z 29))]]) rfl rfl ?_
  refine v_iconst X dX8_led_5 (v := nI 0) (by decide) ?_
  refine v_istore_n X dX8_led_6 rfl (by decide) (lv' := [(2, .int (nI 0)), (0, .ref k), (1, .int i)]) rfl ?_
  refine v_iconst X dX8_led_7 (v := nI 0) (by decide) ?_
  refine v_istore_n X dX8_led_8 rfl (by decide) (lv' := [(3, .int (nI 0)), (2, .int (nI 0)), (0, .ref k), (1, .int i)]) rfl ?_
  refine v_aload_n X dX8_led_9 rfl 2 rfl ?_
  refine v_get X kcX8 fl_X8_306 dX8_led_10 0 rfl rfl ?_
  refine v_ifnullN X dX8_led_13 (tgt := 58) (by decide) ?_
  refine v_aload_n X dX8_led_58 rfl 2 rfl ?_
  refine v_iconst X dX8_led_59 (v := nI 1) (by decide) ?_
  refine v_put X kcX8 fl_X8_43 dX8_led_60 0 rfl (ws' := [ob k 8 [.int (nI 1), .int (nI tr), .int wh, .null, va_rf rr, .ref (q 5), .int (nI (z 6)), .int (nI (z 7)), .int (nI (z 8)), .int (nI (z 9)), .int (nI (z 10)), .int nb, .int (nI (z 12)), .int wa, .long wd, .ref (q 15), .ref (q 16), .ref (q 17), .ref (q 18), .int (nI (z 19)), .int (nI (z 20)), .ref (q 21), .long (lN ev), .ref (q 23), .ref (q 24), .int (nI (z 25)), .ref (q 26), .int al, .long wl, .int (nI (z 29))]]) rfl rfl ?_
  refine v_iconst X dX8_led_63 (v := nI 0) (by decide) ?_
  exact v_iret X Y dX8_led_64 (wrI_of rfl (rfl)) (by omega) (by omega)
set_option maxRecDepth 100000 in
set_option maxHeartbeats 4000000 in
theorem c_X8_size (l : Launch) (E : Et) (k : Nat) (th : Nat) (tr : Nat) (wh : Int32) (g : Nat) (rr : Option Nat) (q : Nat → Nat) (z : Nat → Nat) (nb : Int32) (wa : Int32) (wd : Int64) (ev : Nat) (al : Int32) (wl : Int64) (fd : Nat) (ac : Nat) (im : Nat) (cy : Nat → Nat) (kp : Nat) (nc : Nat) (cb : Nat → Nat) (mn : Nat → Int32) (ink : Nat → Nat) (t : Nat) (dd : Nat) (w : Nat) (hw : w ≤ 11) : Ct l E yX8_size cX8_size 2 (some .int) 5 0 0 [.ref k, .int (nI w)] [ob k 8 [.int (nI th), .int (nI tr), .int wh, .ref g, va_rf rr, .ref (q 5), .int (nI fd), .int (nI (z 7)), .int (nI (z 8)), .int (nI (z 9)), .int (nI (z 10)), .int nb, .int (nI (z 12)), .int wa, .long wd, .ref (q 15), .ref (q 16), .ref (q 17), .ref (q 18), .int (nI ac), .int (nI im), .ref (q 21), .long (lN ev), .ref (q 23), .ref (q 24), .int (nI (z 25)), .ref (q 26), .int al, .long wl, .int (nI (z 29))], ob g 7 [.int (nI (cy 0)), .int (nI (cy 1)), .int (nI (cy 2)), .int (nI (cy 3)), .int (nI (cy 4)), .int (nI (cy 5)), .int (nI (cy 6)), .int (nI (cy 7)), .int (nI kp), .int (nI nc), .ref (cb 0), .ref (cb 1), .ref (cb 2), .ref (cb 3), .ref (cb 4), .ref (cb 5), .ref (cb 6), .ref (cb 7), .ref (cb 8), .ref (cb 9), .ref (cb 10), .ref (cb 11)], aI E (q 15) 25 (xF mn ink t dd)] (wrI [ob k 8 [.int (nI 0), .int (nI tr), .int wh, .ref g, va_rf rr, .ref (q 5), .int (nI fd), .int (nI (z 7)), .int (nI (z 8)), .int (nI (z 9)), .int (nI (z 10)), .int nb, .int (nI (z 12)), .int wa, .long wd, .ref (q 15), .ref (q 16), .ref (q 17), .ref (q 18), .int (nI ac), .int (nI im), .ref (q 21), .long (lN ev), .ref (q 23), .ref (q 24), .int (nI (z 25)), .ref (q 26), .int al, .long wl, .int (nI (z 29))], ob g 7 [.int (nI (cy 0)), .int (nI (cy 1)), .int (nI (cy 2)), .int (nI (cy 3)), .int (nI (cy 4)), .int (nI (cy 5)), .int (nI (cy 6)), .int (nI (cy 7)), .int (nI kp), .int (nI nc), .ref (cb 0), .ref (cb 1), .ref (cb 2), .ref (cb 3), .ref (cb 4), .ref (cb 5), .ref (cb 6), .ref (cb 7), .ref (cb 8), .ref (cb 9), .ref (cb 10), .ref (cb 11)], aI E (q 15) 25 (xF mn ink t dd)] (nI (szV cy dd ac im fd w))) := by
  refine Ct.intro (by decide +kernel) (Nat.le_of_ble_eq_true rfl) (lv := [(0, .ref k), (1, .int (nI w))]) rfl ?_
  intro Z X Y
  refine v_aload_n X dX8_size_0 rfl 0 rfl ?_
  refine v_iconst X dX8_size_1 (v := nI 0) (by decide) ?_
  refine v_put X kcX8 fl_X8_43 dX8_size_2 0 rfl (ws' := [ob k 8 [.int (nI 0), .int (nI tr), .int wh, .ref g, va_rf rr, .ref (q 5), .int (nI fd), .int (nI (z 7)), .int (nI (z 8)), .int (nI (z 9)), .int (nI (z 10)), .int nb, .int (nI (z 12)), .int wa, .long wd, .ref (q 15), .ref (q 16), .ref (q 17), .ref (q 18), .int (nI ac), .int (nI im), .ref (q 21), .long (lN ev), .ref (q 23), .ref (q 24), .int (nI (z 25)), .ref (q 26), .int al, .long wl, .int (nI (z 29))], ob g 7 [.int (nI (cy 0)), .int (nI (cy 1)), .int (nI (cy 2)), .int (nI (cy 3)), .int (nI (cy 4)), .int (nI (cy 5)), .int (nI (cy 6)), .int (nI (cy 7)), .int (nI kp), .int (nI nc), .ref (cb 0), .ref (cb 1), .ref (cb 2), .ref (cb 3), .ref (cb 4), .ref (cb 5), .ref (cb 6), .ref (cb 7), .ref (cb 8), .ref (cb 9), .ref (cb 10), .ref (cb 11)], aI E (q 15) 25 (xF mn ink t dd)]) rfl rfl ?_
  refine v_iload_n X dX8_size_5 rfl 1 rfl ?_
  refine v_bipush X dX8_size_6 (v := nI 11) (by decide) ?_
  refine v_icmpN_ne X dX8_size_8 (tgt := 16) (by decide) (by omega) (by decide) (fun h8 => ?_) (fun h8 => ?_)
  · refine v_iload_n X dX8_size_16 rfl 1 rfl ?_
    refine v_iconst X dX8_size_17 (v := nI 0) (by decide) ?_
    refine v_bipush X dX8_size_18 (v := nI 10) (by decide) ?_
    refine v_roI1 X (rn_S X k_X8_in ml_X8_126 dX8_size_20 (c_X8_in l E (nI w) (nI 0) (nI 10) ) rfl (by decide) (by decide) (by omega) (by omega) (Nat.le_of_ble_eq_true rfl)) [] rfl rfl ?_
    refine v_ifB_ne X dX8_size_23 (tgt := 28) (by decide) (fun h23 => ?_) (fun h23 => ?_)
    · refine v_aload_n X dX8_size_28 rfl 0 rfl ?_
      refine v_get X kcX8 fl_X8_306 dX8_size_29 0 rfl rfl ?_
      refine v_ifnonnull X dX8_size_32 (tgt := 37) (by decide) ?_
      refine v_iload_n X dX8_size_37 rfl 1 rfl ?_
      obtain rfl | rfl | rfl | rfl | rfl | rfl | rfl | rfl | rfl | rfl | rfl : w = 0 ∨ w = 1 ∨ w = 2 ∨ w = 3 ∨ w = 4 ∨ w = 5 ∨ w = 6 ∨ w = 7 ∨ w = 8 ∨ w = 9 ∨ w = 10 := by omega
      · refine v_swIn X dX8_size_38 (by decide) (by decide) (off := 54) (by decide) (tgt := 92) (by decide) ?_
        refine v_aload_n X dX8_size_92 rfl 0 rfl ?_
        refine v_get X kcX8 fl_X8_306 dX8_size_93 0 rfl rfl ?_
        refine v_getN X kcX7 fl_X8_146 dX8_size_96 1 rfl rfl ?_
        exact v_iret X Y dX8_size_99 (wrI_of rfl (rfl)) (by omega) (by omega)
      · refine v_swIn X dX8_size_38 (by decide) (by decide) (off := 62) (by decide) (tgt := 100) (by decide) ?_
        refine v_aload_n X dX8_size_100 rfl 0 rfl ?_
        refine v_get X kcX8 fl_X8_306 dX8_size_101 0 rfl rfl ?_
        refine v_getN X kcX7 fl_X8_213 dX8_size_104 1 rfl rfl ?_
        exact v_iret X Y dX8_size_107 (wrI_of rfl (rfl)) (by omega) (by omega)
      · refine v_swIn X dX8_size_38 (by decide) (by decide) (off := 70) (by decide) (tgt := 108) (by decide) ?_
        refine v_aload_n X dX8_size_108 rfl 0 rfl ?_
        refine v_get X kcX8 fl_X8_306 dX8_size_109 0 rfl rfl ?_
        refine v_getN X kcX7 fl_X8_215 dX8_size_112 1 rfl rfl ?_
        exact v_iret X Y dX8_size_115 (wrI_of rfl (rfl)) (by omega) (by omega)
      · refine v_swIn X dX8_size_38 (by decide) (by decide) (off := 78) (by decide) (tgt := 116) (by decide) ?_
        refine v_aload_n X dX8_size_116 rfl 0 rfl ?_
        refine v_get X kcX8 fl_X8_306 dX8_size_117 0 rfl rfl ?_
        refine v_getN X kcX7 fl_X8_180 dX8_size_120 1 rfl rfl ?_
        exact v_iret X Y dX8_size_123 (wrI_of rfl (rfl)) (by omega) (by omega)
      · refine v_swIn X dX8_size_38 (by decide) (by decide) (off := 86) (by decide) (tgt := 124) (by decide) ?_
        refine v_aload_n X dX8_size_124 rfl 0 rfl ?_
        refine v_get X kcX8 fl_X8_306 dX8_size_125 0 rfl rfl ?_
        refine v_getN X kcX7 fl_X8_183 dX8_size_128 1 rfl rfl ?_
        exact v_iret X Y dX8_size_131 (wrI_of rfl (rfl)) (by omega) (by omega)
      · refine v_swIn X dX8_size_38 (by decide) (by decide) (off := 94) (by decide) (tgt := 132) (by decide) ?_
        refine v_aload_n X dX8_size_132 rfl 0 rfl ?_
        refine v_get X kcX8 fl_X8_306 dX8_size_133 0 rfl rfl ?_
        refine v_getN X kcX7 fl_X8_240 dX8_size_136 1 rfl rfl ?_
        exact v_iret X Y dX8_size_139 (wrI_of rfl (rfl)) (by omega) (by omega)
      · refine v_swIn X dX8_size_38 (by decide) (by decide) (off := 102) (by decide) (tgt := 140) (by decide) ?_
        refine v_aload_n X dX8_size_140 rfl 0 rfl ?_
        refine v_get X kcX8 fl_X8_306 dX8_size_141 0 rfl rfl ?_
        refine v_getN X kcX7 fl_X8_266 dX8_size_144 1 rfl rfl ?_
        exact v_iret X Y dX8_size_147 (wrI_of rfl (rfl)) (by omega) (by omega)
      · refine v_swIn X dX8_size_38 (by decide) (by decide) (off := 110) (by decide) (tgt := 148) (by decide) ?_
        refine v_aload_n X dX8_size_148 rfl 0 rfl ?_
        refine v_get X kcX8 fl_X8_306 dX8_size_149 0 rfl rfl ?_
        refine v_getN X kcX7 fl_X8_278 dX8_size_152 1 rfl rfl ?_
        exact v_iret X Y dX8_size_155 (wrI_of rfl (rfl)) (by omega) (by omega)
      · refine v_swIn X dX8_size_38 (by decide) (by decide) (off := 118) (by decide) (tgt := 156) (by decide) ?_
        refine v_aload_n X dX8_size_156 rfl 0 rfl ?_
        refine v_get X kcX8 fl_X8_17 dX8_size_157 0 rfl rfl ?_
        refine v_bipush X dX8_size_160 (v := nI 24) (by decide) ?_
        refine v_iald X dX8_size_162 2 rfl (by decide) (by decide) ?_
        refine v_eqi (x' := nI dd) (xF_d) ?_
        exact v_iret X Y dX8_size_163 (wrI_of rfl (rfl)) (by omega) (by omega)
      · refine v_swIn X dX8_size_38 (by decide) (by decide) (off := 126) (by decide) (tgt := 164) (by decide) ?_
        refine v_aload_n X dX8_size_164 rfl 0 rfl ?_
        refine v_get X kcX8 fl_X8_311 dX8_size_165 0 rfl rfl ?_
        exact v_iret X Y dX8_size_168 (wrI_of rfl (rfl)) (by omega) (by omega)
      · refine v_swOut X dX8_size_38 (Or.inr (by decide)) (tgt := 169) (by decide) ?_
        refine v_aload_n X dX8_size_169 rfl 0 rfl ?_
        refine v_get X kcX8 fl_X8_314 dX8_size_170 0 rfl rfl ?_
        exact v_iret X Y dX8_size_173 (wrI_of rfl (rfl)) (by omega) (by omega)
    · exact absurd ((nI_leI (by decide) (by omega)).mpr (Nat.zero_le w)) (fun q => of_decide_eq_false h23 ⟨q, (nI_leI (by omega) (by decide)).mpr (by omega)⟩)
  · refine v_aload_n X dX8_size_11 rfl 0 rfl ?_
    refine v_get X kcX8 fl_X8_299 dX8_size_12 0 rfl rfl ?_
    exact v_iret X Y dX8_size_15 (wrI_of rfl (by rw [h8]; rfl)) (by omega) (by omega)
set_option maxRecDepth 100000 in
set_option maxHeartbeats 4000000 in
theorem c_X8_size_no (l : Launch) (E : Et) (k : Nat) (th : Nat) (tr : Nat) (wh : Int32) (g : Nat) (rr : Option Nat) (q : Nat → Nat) (z : Nat → Nat) (nb : Int32) (wa : Int32) (wd : Int64) (ev : Nat) (al : Int32) (wl : Int64) (cy : Nat → Nat) (kp : Nat) (nc : Nat) (cb : Nat → Nat) (w : Int32) (hwo : w.toInt < 0 ∨ (11 : Int) < w.toInt) : Ct l E yX8_size cX8_size 2 (some .int) 5 0 0 [.ref k, .int w] [ob k 8 [.int (nI th), .int (nI tr), .int wh, .ref g, va_rf rr, .ref (q 5), .int (nI (z 6)), .int (nI (z 7)), .int (nI (z 8)), .int (nI (z 9)), .int (nI (z 10)), .int nb, .int (nI (z 12)), .int wa, .long wd, .ref (q 15), .ref (q 16), .ref (q 17), .ref (q 18), .int (nI (z 19)), .int (nI (z 20)), .ref (q 21), .long (lN ev), .ref (q 23), .ref (q 24), .int (nI (z 25)), .ref (q 26), .int al, .long wl, .int (nI (z 29))], ob g 7 [.int (nI (cy 0)), .int (nI (cy 1)), .int (nI (cy 2)), .int (nI (cy 3)), .int (nI (cy 4)), .int (nI (cy 5)), .int (nI (cy 6)), .int (nI (cy 7)), .int (nI kp), .int (nI nc), .ref (cb 0), .ref (cb 1), .ref (cb 2), .ref (cb 3), .ref (cb 4), .ref (cb 5), .ref (cb 6), .ref (cb 7), .ref (cb 8), .ref (cb 9), .ref (cb 10), .ref (cb 11)]] (wrI [ob k 8 [.int (nI 0), .int (nI tr), .int wh, .ref g, va_rf rr, .ref (q 5), .int (nI (z 6)), .int (nI (z 7)), .int (nI (z 8)), .int (nI (z 9)), .int (nI (z 10)), .int nb, .int (nI (z 12)), .int wa, .long wd, .ref (q 15), .ref (q 16), .ref (q 17), .ref (q 18), .int (nI (z 19)), .int (nI (z 20)), .ref (q 21), .long (lN ev), .ref (q 23), .ref (q 24), .int (nI (z 25)), .ref (q 26), .int al, .long wl, .int (nI (z 29))], ob g 7 [.int (nI (cy 0)), .int (nI (cy 1)), .int (nI (cy 2)), .int (nI (cy 3)), .int (nI (cy 4)), .int (nI (cy 5)), .int (nI (cy 6)), .int (nI (cy 7)), .int (nI kp), .int (nI nc), .ref (cb 0), .ref (cb 1), .ref (cb 2), .ref (cb 3), .ref (cb 4), .ref (cb 5), .ref (cb 6), .ref (cb 7), .ref (cb 8), .ref (cb 9), .ref (cb 10), .ref (cb 11)]] (-1)) := by
  refine Ct.intro (by decide +kernel) (Nat.le_of_ble_eq_true rfl) (lv := [(0, .ref k), (1, .int w)]) rfl ?_
  intro Z X Y
  refine v_aload_n X dX8_size_0 rfl 0 rfl ?_
  refine v_iconst X dX8_size_1 (v := nI 0) (by decide) ?_
  refine v_put X kcX8 fl_X8_43 dX8_size_2 0 rfl (ws' := [ob k 8 [.int (nI 0), .int (nI tr), .int wh, .ref g, va_rf rr, .ref (q 5), .int (nI (z 6)), .int (nI (z 7)), .int (nI (z 8)), .int (nI (z 9)), .int (nI (z 10)), .int nb, .int (nI (z 12)), .int wa, .long wd, .ref (q 15), .ref (q 16), .ref (q 17), .ref (q 18), .int (nI (z 19)), .int (nI (z 20)), .ref (q 21), .long (lN ev), .ref (q 23), .ref (q 24), .int (nI (z 25)), .ref (q 26), .int al, .long wl, .int (nI (z 29))], ob g 7 [.int (nI (cy 0)), .int (nI (cy 1)), .int (nI (cy 2)), .int (nI (cy 3)), .int (nI (cy 4)), .int (nI (cy 5)), .int (nI (cy 6)), .int (nI (cy 7)), .int (nI kp), .int (nI nc), .ref (cb 0), .ref (cb 1), .ref (cb 2), .ref (cb 3), .ref (cb 4), .ref (cb 5), .ref (cb 6), .ref (cb 7), .ref (cb 8), .ref (cb 9), .ref (cb 10), .ref (cb 11)]]) rfl rfl ?_
  refine v_iload_n X dX8_size_5 rfl 1 rfl ?_
  refine v_bipush X dX8_size_6 (v := nI 11) (by decide) ?_
  refine v_icmp_ne X dX8_size_8 (tgt := 16) (by decide) (fun h8 => ?_) (fun h8 => ?_)
  · refine v_iload_n X dX8_size_16 rfl 1 rfl ?_
    refine v_iconst X dX8_size_17 (v := nI 0) (by decide) ?_
    refine v_bipush X dX8_size_18 (v := nI 10) (by decide) ?_
    refine v_roI1 X (rn_S X k_X8_in ml_X8_126 dX8_size_20 (c_X8_in l E w (nI 0) (nI 10) ) rfl (by decide) (by decide) (by omega) (by omega) (Nat.le_of_ble_eq_true rfl)) [] rfl rfl ?_
    refine v_ifB_ne X dX8_size_23 (tgt := 28) (by decide) (fun h23 => ?_) (fun h23 => ?_)
    · exact absurd (of_decide_eq_true h23) (sz_out hwo)
    · refine v_iconst X dX8_size_26 (v := (-1)) (by decide) ?_
      exact v_iret X Y dX8_size_27 (wrI_of rfl rfl) (by omega) (by omega)
  · exact absurd hwo (by rw [h8]; decide)
set_option maxRecDepth 100000 in
set_option maxHeartbeats 4000000 in
theorem c_X8_size_nno (l : Launch) (E : Et) (k : Nat) (th : Nat) (tr : Nat) (wh : Int32) (rr : Option Nat) (q : Nat → Nat) (z : Nat → Nat) (nb : Int32) (wa : Int32) (wd : Int64) (ev : Nat) (al : Int32) (wl : Int64) (w : Int32) (hwo : w.toInt < 0 ∨ (11 : Int) < w.toInt) : Ct l E yX8_size cX8_size 2 (some .int) 5 0 0 [.ref k, .int w] [ob k 8 [.int (nI th), .int (nI tr), .int wh, .null, va_rf rr, .ref (q 5), .int (nI (z 6)), .int (nI (z 7)), .int (nI (z 8)), .int (nI (z 9)), .int (nI (z 10)), .int nb, .int (nI (z 12)), .int wa, .long wd, .ref (q 15), .ref (q 16), .ref (q 17), .ref (q 18), .int (nI (z 19)), .int (nI (z 20)), .ref (q 21), .long (lN ev), .ref (q 23), .ref (q 24), .int (nI (z 25)), .ref (q 26), .int al, .long wl, .int (nI (z 29))]] (wrI [ob k 8 [.int (nI 0), .int (nI tr), .int wh, .null, va_rf rr, .ref (q 5), .int (nI (z 6)), .int (nI (z 7)), .int (nI (z 8)), .int (nI (z 9)), .int (nI (z 10)), .int nb, .int (nI (z 12)), .int wa, .long wd, .ref (q 15), .ref (q 16), .ref (q 17), .ref (q 18), .int (nI (z 19)), .int (nI (z 20)), .ref (q 21), .long (lN ev), .ref (q 23), .ref (q 24), .int (nI (z 25)), .ref (q 26), .int al, .long wl, .int (nI (z 29))]] (-1)) := by
  refine Ct.intro (by decide +kernel) (Nat.le_of_ble_eq_true rfl) (lv := [(0, .ref k), (1, .int w)]) rfl ?_
  intro Z X Y
  refine v_aload_n X dX8_size_0 rfl 0 rfl ?_
  refine v_iconst X dX8_size_1 (v := nI 0) (by decide) ?_
  refine v_put X kcX8 fl_X8_43 dX8_size_2 0 rfl (ws' := [ob k 8 [.int (nI 0), .int (nI tr), .int wh, .null, va_rf rr, .ref (q 5), .int (nI (z 6)), .int (nI (z 7)), .int (nI (z 8)), .int (nI (z 9)), .int (nI (z 10)), .int nb, .int (nI (z 12)), .int wa, .long wd, .ref (q 15), .ref (q 16), .ref (q 17), .ref (q 18), .int (nI (z 19)), .int (nI (z 20)), .ref (q 21), .long (lN ev), .ref (q 23), .ref (q 24), .int (nI (z 25)), .ref (q 26), .int al, .long wl, .int (nI (z 29))]]) rfl rfl ?_
  refine v_iload_n X dX8_size_5 rfl 1 rfl ?_
  refine v_bipush X dX8_size_6 (v := nI 11) (by decide) ?_
  refine v_icmp_ne X dX8_size_8 (tgt := 16) (by decide) (fun h8 => ?_) (fun h8 => ?_)
  · refine v_iload_n X dX8_size_16 rfl 1 rfl ?_
    refine v_iconst X dX8_size_17 (v := nI 0) (by decide) ?_
    refine v_bipush X dX8_size_18 (v := nI 10) (by decide) ?_
    refine v_roI1 X (rn_S X k_X8_in ml_X8_126 dX8_size_20 (c_X8_in l E w (nI 0) (nI 10) ) rfl (by decide) (by decide) (by omega) (by omega) (Nat.le_of_ble_eq_true rfl)) [] rfl rfl ?_
    refine v_ifB_ne X dX8_size_23 (tgt := 28) (by decide) (fun h23 => ?_) (fun h23 => ?_)
    · exact absurd (of_decide_eq_true h23) (sz_out hwo)
    · refine v_iconst X dX8_size_26 (v := (-1)) (by decide) ?_
      exact v_iret X Y dX8_size_27 (wrI_of rfl rfl) (by omega) (by omega)
  · exact absurd hwo (by rw [h8]; decide)
set_option maxRecDepth 100000 in
set_option maxHeartbeats 4000000 in
theorem c_X8_size_n (l : Launch) (E : Et) (k : Nat) (th : Nat) (tr : Nat) (wh : Int32) (rr : Option Nat) (q : Nat → Nat) (z : Nat → Nat) (nb : Int32) (wa : Int32) (wd : Int64) (ev : Nat) (al : Int32) (wl : Int64) (fd : Nat) (w : Nat) (hw : w ≤ 11) : Ct l E yX8_size cX8_size 2 (some .int) 5 0 0 [.ref k, .int (nI w)] [ob k 8 [.int (nI th), .int (nI tr), .int wh, .null, va_rf rr, .ref (q 5), .int (nI fd), .int (nI (z 7)), .int (nI (z 8)), .int (nI (z 9)), .int (nI (z 10)), .int nb, .int (nI (z 12)), .int wa, .long wd, .ref (q 15), .ref (q 16), .ref (q 17), .ref (q 18), .int (nI (z 19)), .int (nI (z 20)), .ref (q 21), .long (lN ev), .ref (q 23), .ref (q 24), .int (nI (z 25)), .ref (q 26), .int al, .long wl, .int (nI (z 29))]] (wrI [ob k 8 [.int (nI 0), .int (nI tr), .int wh, .null, va_rf rr, .ref (q 5), .int (nI fd), .int (nI (z 7)), .int (nI (z 8)), .int (nI (z 9)), .int (nI (z 10)), .int nb, .int (nI (z 12)), .int wa, .long wd, .ref (q 15), .ref (q 16), .ref (q 17), .ref (q 18), .int (nI (z 19)), .int (nI (z 20)), .ref (q 21), .long (lN ev), .ref (q 23), .ref (q 24), .int (nI (z 25)), .ref (q 26), .int al, .long wl, .int (nI (z 29))]] (nI (if w = 11 then fd else 0))) := by
  refine Ct.intro (by decide +kernel) (Nat.le_of_ble_eq_true rfl) (lv := [(0, .ref k), (1, .int (nI w))]) rfl ?_
  intro Z X Y
  refine v_aload_n X dX8_size_0 rfl 0 rfl ?_
  refine v_iconst X dX8_size_1 (v := nI 0) (by decide) ?_
  refine v_put X kcX8 fl_X8_43 dX8_size_2 0 rfl (ws' := [ob k 8 [.int (nI 0), .int (nI tr), .int wh, .null, va_rf rr, .ref (q 5), .int (nI fd), .int (nI (z 7)), .int (nI (z 8)), .int (nI (z 9)), .int (nI (z 10)), .int nb, .int (nI (z 12)), .int wa, .long wd, .ref (q 15), .ref (q 16), .ref (q 17), .ref (q 18), .int (nI (z 19)), .int (nI (z 20)), .ref (q 21), .long (lN ev), .ref (q 23), .ref (q 24), .int (nI (z 25)), .ref (q 26), .int al, .long wl, .int (nI (z 29))]]) rfl rfl ?_
  refine v_iload_n X dX8_size_5 rfl 1 rfl ?_
  refine v_bipush X dX8_size_6 (v := nI 11) (by decide) ?_
  refine v_icmpN_ne X dX8_size_8 (tgt := 16) (by decide) (by omega) (by decide) (fun h8 => ?_) (fun h8 => ?_)
  · refine v_iload_n X dX8_size_16 rfl 1 rfl ?_
    refine v_iconst X dX8_size_17 (v := nI 0) (by decide) ?_
    refine v_bipush X dX8_size_18 (v := nI 10) (by decide) ?_
    refine v_roI1 X (rn_S X k_X8_in ml_X8_126 dX8_size_20 (c_X8_in l E (nI w) (nI 0) (nI 10) ) rfl (by decide) (by decide) (by omega) (by omega) (Nat.le_of_ble_eq_true rfl)) [] rfl rfl ?_
    refine v_ifB_ne X dX8_size_23 (tgt := 28) (by decide) (fun h23 => ?_) (fun h23 => ?_)
    · refine v_aload_n X dX8_size_28 rfl 0 rfl ?_
      refine v_get X kcX8 fl_X8_306 dX8_size_29 0 rfl rfl ?_
      refine v_ifnonnullN X dX8_size_32 ?_
      refine v_iconst X dX8_size_35 (v := nI 0) (by decide) ?_
      exact v_iret X Y dX8_size_36 (wrI_of rfl (by rw [if_neg h8])) (by omega) (by omega)
    · exact absurd ((nI_leI (by decide) (by omega)).mpr (Nat.zero_le w)) (fun q => of_decide_eq_false h23 ⟨q, (nI_leI (by omega) (by decide)).mpr (by omega)⟩)
  · refine v_aload_n X dX8_size_11 rfl 0 rfl ?_
    refine v_get X kcX8 fl_X8_299 dX8_size_12 0 rfl rfl ?_
    exact v_iret X Y dX8_size_15 (wrI_of rfl (by rw [if_pos h8])) (by omega) (by omega)
