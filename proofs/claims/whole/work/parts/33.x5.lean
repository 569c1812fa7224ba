set_option maxRecDepth 100000 in
set_option maxHeartbeats 4000000 in
theorem c_X5_goesOn_0 (l : Launch) (E : Et) (h : Nat) (hr : Nat) (hs : Nat) (row : Nat → Int32) (sl : Nat → Int64) (g : Nat) (cy : Nat → Nat) (ca : Nat → Nat) (Fs : Nat → Nat) (Ft : Nat → Nat) (h2 : Nat) (hi2 : Nat) (hm2 : Nat) (t2 : Nat) (dd2 : Nat) (ink2 : Nat → Nat) (mn2 : Nat → Int32) (men : Nat) (us : Nat)  : Ct l E yX5_goesOn cX5_goesOn 11 (some .boolean) 4 0 0 [.ref h, .ref g, .ref h2, .int (nI 8), .int (nI us), .int (nI men)] [ob h 5 [.ref hr, .ref hs], aI E hr 8 row, aL E hs 8 sl, ob g 0 [.int (nI (cy 0)), .int (nI (cy 1)), .int (nI (cy 2)), .int (nI (cy 3)), .int (nI (cy 4)), .int (nI (cy 5)), .int (nI (cy 6)), .int (nI (cy 7)), .ref (ca 0), .ref (ca 1), .ref (ca 2), .ref (ca 3), .ref (ca 4), .ref (ca 5), .ref (ca 6), .ref (ca 7), .ref (ca 8), .ref (ca 9), .ref (ca 10), .ref (ca 11)], aM E (ca 5) 8 Fs, aM E (ca 6) 8 Ft, ob h2 2 [.ref hi2, .ref hm2, .int (nI t2), .int (nI dd2)], aN E hi2 8 ink2, aI E hm2 8 mn2] (wrI [ob h 5 [.ref hr, .ref hs], aI E hr 8 ((gsF (gsK cy Fs Ft t2) ink2 men 0 8 us (row, sl)).2.1), aL E hs 8 ((gsF (gsK cy Fs Ft t2) ink2 men 0 8 us (row, sl)).2.2), ob g 0 [.int (nI (cy 0)), .int (nI (cy 1)), .int (nI (cy 2)), .int (nI (cy 3)), .int (nI (cy 4)), .int (nI (cy 5)), .int (nI (cy 6)), .int (nI (cy 7)), .ref (ca 0), .ref (ca 1), .ref (ca 2), .ref (ca 3), .ref (ca 4), .ref (ca 5), .ref (ca 6), .ref (ca 7), .ref (ca 8), .ref (ca 9), .ref (ca 10), .ref (ca 11)], aM E (ca 5) 8 Fs, aM E (ca 6) 8 Ft, ob h2 2 [.ref hi2, .ref hm2, .int (nI t2), .int (nI dd2)], aN E hi2 8 ink2, aI E hm2 8 mn2] (nI ((gsF (gsK cy Fs Ft t2) ink2 men 0 8 us (row, sl)).1).toNat)) := by
  refine Ct.intro (by decide +kernel) (Nat.le_of_ble_eq_true rfl) (lv := [(0, .ref h), (1, .ref g), (2, .ref h2), (3, .int (nI 8)), (4, .int (nI us)), (5, .int (nI men))]) rfl ?_
  intro Z X Y
  refine v_iload_n X dX5_goesOn_0 rfl 3 rfl ?_
  refine v_if_lt X dX5_goesOn_1 (tgt := 10) (by decide) (fun h1 => ?_) (fun h1 => ?_)
  · exact absurd h1 (by decide)
  · refine v_iload_n X dX5_goesOn_4 rfl 3 rfl ?_
    refine v_bipush X dX5_goesOn_5 (v := nI 8) (by decide) ?_
    refine v_icmpN_lt X dX5_goesOn_7 (tgt := 12) (by decide) (by decide) (by decide) (fun h7 => ?_) (fun h7 => ?_)
    · exfalso; omega
    · refine v_iconst X dX5_goesOn_10 (v := nI 1) (by decide) ?_
      exact v_zret X Y dX5_goesOn_11 (by decide) (wrI_of (rfl) (rfl)) (by omega) (by omega)
set_option maxRecDepth 100000 in
set_option maxHeartbeats 4000000 in
theorem c_X5_goesOn_s (l : Launch) (E : Et) (h : Nat) (hr : Nat) (hs : Nat) (row : Nat → Int32) (sl : Nat → Int64) (g : Nat) (cy : Nat → Nat) (ca : Nat → Nat) (Fs : Nat → Nat) (Ft : Nat → Nat) (h2 : Nat) (hi2 : Nat) (hm2 : Nat) (t2 : Nat) (dd2 : Nat) (ink2 : Nat → Nat) (mn2 : Nat → Int32) (men : Nat) (us : Nat) (n : Nat) (c : Nat) (hd : cy 4 ≤ 6) (hcl : cy 5 ≤ 8) (ht2 : t2 < 256) (hink2 : ∀ c, ink2 c ≤ 40) (hmen_ : men ≤ 8) (hc : c < 8) (hus : us ≤ 8) (ih : ∀ (us : Nat) (row : Nat → Int32) (sl : Nat → Int64) (hus : us ≤ 8), Ct l E yX5_goesOn cX5_goesOn 11 (some .boolean) (n + 4) 0 0 [.ref h, .ref g, .ref h2, .int (nI (c + 1)), .int (nI us), .int (nI men)] [ob h 5 [.ref hr, .ref hs], aI E hr 8 row, aL E hs 8 sl, ob g 0 [.int (nI (cy 0)), .int (nI (cy 1)), .int (nI (cy 2)), .int (nI (cy 3)), .int (nI (cy 4)), .int (nI (cy 5)), .int (nI (cy 6)), .int (nI (cy 7)), .ref (ca 0), .ref (ca 1), .ref (ca 2), .ref (ca 3), .ref (ca 4), .ref (ca 5), .ref (ca 6), .ref (ca 7), .ref (ca 8), .ref (ca 9), .ref (ca 10), .ref (ca 11)], aM E (ca 5) 8 Fs, aM E (ca 6) 8 Ft, ob h2 2 [.ref hi2, .ref hm2, .int (nI t2), .int (nI dd2)], aN E hi2 8 ink2, aI E hm2 8 mn2] (wrI [ob h 5 [.ref hr, .ref hs], aI E hr 8 ((gsF (gsK cy Fs Ft t2) ink2 men n (c + 1) us (row, sl)).2.1), aL E hs 8 ((gsF (gsK cy Fs Ft t2) ink2 men n (c + 1) us (row, sl)).2.2), ob g 0 [.int (nI (cy 0)), .int (nI (cy 1)), .int (nI (cy 2)), .int (nI (cy 3)), .int (nI (cy 4)), .int (nI (cy 5)), .int (nI (cy 6)), .int (nI (cy 7)), .ref (ca 0), .ref (ca 1), .ref (ca 2), .ref (ca 3), .ref (ca 4), .ref (ca 5), .ref (ca 6), .ref (ca 7), .ref (ca 8), .ref (ca 9), .ref (ca 10), .ref (ca 11)], aM E (ca 5) 8 Fs, aM E (ca 6) 8 Ft, ob h2 2 [.ref hi2, .ref hm2, .int (nI t2), .int (nI dd2)], aN E hi2 8 ink2, aI E hm2 8 mn2] (nI ((gsF (gsK cy Fs Ft t2) ink2 men n (c + 1) us (row, sl)).1).toNat))) : Ct l E yX5_goesOn cX5_goesOn 11 (some .boolean) (n + 5) 0 0 [.ref h, .ref g, .ref h2, .int (nI c), .int (nI us), .int (nI men)] [ob h 5 [.ref hr, .ref hs], aI E hr 8 row, aL E hs 8 sl, ob g 0 [.int (nI (cy 0)), .int (nI (cy 1)), .int (nI (cy 2)), .int (nI (cy 3)), .int (nI (cy 4)), .int (nI (cy 5)), .int (nI (cy 6)), .int (nI (cy 7)), .ref (ca 0), .ref (ca 1), .ref (ca 2), .ref (ca 3), .ref (ca 4), .ref (ca 5), .ref (ca 6), .ref (ca 7), .ref (ca 8), .ref (ca 9), .ref (ca 10), .ref (ca 11)], aM E (ca 5) 8 Fs, aM E (ca 6) 8 Ft, ob h2 2 [.ref hi2, .ref hm2, .int (nI t2), .int (nI dd2)], aN E hi2 8 ink2, aI E hm2 8 mn2] (wrI [ob h 5 [.ref hr, .ref hs], aI E hr 8 ((gsF (gsK cy Fs Ft t2) ink2 men (n + 1) c us (row, sl)).2.1), aL E hs 8 ((gsF (gsK cy Fs Ft t2) ink2 men (n + 1) c us (row, sl)).2.2), ob g 0 [.int (nI (cy 0)), .int (nI (cy 1)), .int (nI (cy 2)), .int (nI (cy 3)), .int (nI (cy 4)), .int (nI (cy 5)), .int (nI (cy 6)), .int (nI (cy 7)), .ref (ca 0), .ref (ca 1), .ref (ca 2), .ref (ca 3), .ref (ca 4), .ref (ca 5), .ref (ca 6), .ref (ca 7), .ref (ca 8), .ref (ca 9), .ref (ca 10), .ref (ca 11)], aM E (ca 5) 8 Fs, aM E (ca 6) 8 Ft, ob h2 2 [.ref hi2, .ref hm2, .int (nI t2), .int (nI dd2)], aN E hi2 8 ink2, aI E hm2 8 mn2] (nI ((gsF (gsK cy Fs Ft t2) ink2 men (n + 1) c us (row, sl)).1).toNat)) := by
  refine Ct.intro (by decide +kernel) (Nat.le_of_ble_eq_true rfl) (lv := [(0, .ref h), (1, .ref g), (2, .ref h2), (3, .int (nI c)), (4, .int (nI us)), (5, .int (nI men))]) rfl ?_
  intro Z X Y
  refine v_iload_n X dX5_goesOn_0 rfl 3 rfl ?_
  refine v_if_lt X dX5_goesOn_1 (tgt := 10) (by decide) (fun h1 => ?_) (fun h1 => ?_)
  · exact absurd h1 (nI_pos (by omega))
  · refine v_iload_n X dX5_goesOn_4 rfl 3 rfl ?_
    refine v_bipush X dX5_goesOn_5 (v := nI 8) (by decide) ?_
    refine v_icmpN_lt X dX5_goesOn_7 (tgt := 12) (by decide) (by omega) (by decide) (fun h7 => ?_) (fun h7 => ?_)
    · refine v_aload_n X dX5_goesOn_12 rfl 2 rfl ?_
      refine v_getN X kcX2 fl_X5_34 dX5_goesOn_13 6 rfl rfl ?_
      refine v_iload_n X dX5_goesOn_16 rfl 3 rfl ?_
      refine v_iald X dX5_goesOn_17 7 rfl (by omega) (by decide) ?_
      refine v_ifN_ne X dX5_goesOn_18 (tgt := 43) (by decide) (Nat.lt_of_le_of_lt (hink2 _) (by decide)) (fun h18 => ?_) (fun h18 => ?_)
      · refine v_aload_n X dX5_goesOn_43 rfl 1 rfl ?_
        refine v_iconst X dX5_goesOn_44 (v := nI 1) (by decide) ?_
        refine v_iload_n X dX5_goesOn_45 rfl 3 rfl ?_
        refine v_ishl X dX5_goesOn_46 ?_
        refine v_eqi (x' := nI (2 ^ c)) (nI_shl1 (by omega)) ?_
        refine v_aload_n X dX5_goesOn_47 rfl 2 rfl ?_
        refine v_getN X kcX2 fl_X5_37 dX5_goesOn_48 6 rfl rfl ?_
        refine v_roL1 X (rn_VN X k_X0_setsKeeping ml_X5_41 dX5_goesOn_51 (c_X0_setsKeeping l E g cy ca Fs Ft (2 ^ c) t2 (by first | assumption | omega) (by first | assumption | omega) (Nat.pow_lt_pow_right (n := 31) (by decide) (by omega)) (Nat.lt_trans ht2 (by decide))) rfl 0 rfl rfl (by omega) (by decide) (by omega) (by omega) (Nat.le_of_ble_eq_true rfl)) [3, 4, 5] rfl rfl ?_
        refine v_lstore X dX5_goesOn_54 (by decide) (lv' := [(6, .long (lN (skF Fs Ft (2 ^ c) t2 (allS (cy 4)) (cy 5)))), (0, .ref h), (1, .ref g), (2, .ref h2), (3, .int (nI c)), (4, .int (nI us)), (5, .int (nI men))]) rfl ?_
        refine v_iconst X dX5_goesOn_56 (v := nI 0) (by decide) ?_
        refine v_istore X dX5_goesOn_57 (by decide) (lv' := [(8, .int (nI 0)), (6, .long (lN (skF Fs Ft (2 ^ c) t2 (allS (cy 4)) (cy 5)))), (0, .ref h), (1, .ref g), (2, .ref h2), (3, .int (nI c)), (4, .int (nI us)), (5, .int (nI men))]) rfl ?_
        have L59 : ∀ (j59 : Nat) (vm : Nat) (vr : Nat → Int32) (vs : Nat → Int64), (vm ≤ 9 ∧ gsF (gsK cy Fs Ft t2) ink2 men (n + 1) c us (row, sl) = gsL (gsF (gsK cy Fs Ft t2) ink2 men n (c + 1)) (lN (kpN cy Fs Ft t2 (2 ^ c))) c us (glim us men - vm) vm (vr, vs)) → 9 - vm < j59 → V E Z 59 [(0, .ref h), (1, .ref g), (2, .ref h2), (3, .int (nI c)), (4, .int (nI us)), (5, .int (nI men)), (6, .long (lN (skF Fs Ft (2 ^ c) t2 (allS (cy 4)) (cy 5)))), (8, .int (nI vm))] [] [ob h 5 [.ref hr, .ref hs], aI E hr 8 vr, aL E hs 8 vs, ob g 0 [.int (nI (cy 0)), .int (nI (cy 1)), .int (nI (cy 2)), .int (nI (cy 3)), .int (nI (cy 4)), .int (nI (cy 5)), .int (nI (cy 6)), .int (nI (cy 7)), .ref (ca 0), .ref (ca 1), .ref (ca 2), .ref (ca 3), .ref (ca 4), .ref (ca 5), .ref (ca 6), .ref (ca 7), .ref (ca 8), .ref (ca 9), .ref (ca 10), .ref (ca 11)], aM E (ca 5) 8 Fs, aM E (ca 6) 8 Ft, ob h2 2 [.ref hi2, .ref hm2, .int (nI t2), .int (nI dd2)], aN E hi2 8 ink2, aI E hm2 8 mn2] 0 0 := by
          intro j59
          induction j59 with
          | zero => intro vm vr vs hI hM; exact absurd hM (Nat.not_lt_zero _)
          | succ j59 ih59 =>
            intro vm vr vs hI59 hM59
            obtain ⟨hv, hq⟩ := id hI59
            refine v_iload X dX5_goesOn_59 7 rfl ?_
            refine v_iload X dX5_goesOn_61 4 rfl ?_
            refine v_icmpN_gt X dX5_goesOn_63 (tgt := 172) (by decide) (by omega) (by omega) (fun h63 => ?_) (fun h63 => ?_)
            · refine v_iconst X dX5_goesOn_172 (v := nI 0) (by decide) ?_
              exact v_zret X Y dX5_goesOn_173 (by decide) (wrI_of (by rw [hq, gsL_end (by unfold glim; omega)]) (by rw [hq, gsL_end (by unfold glim; omega)]; rfl)) (by omega) (by omega)
            · refine v_iload X dX5_goesOn_66 7 rfl ?_
              refine v_iload X dX5_goesOn_68 5 rfl ?_
              refine v_icmpN_ge X dX5_goesOn_70 (tgt := 172) (by decide) (by omega) (by omega) (fun h70 => ?_) (fun h70 => ?_)
              · refine v_iconst X dX5_goesOn_172 (v := nI 0) (by decide) ?_
                exact v_zret X Y dX5_goesOn_173 (by decide) (wrI_of (by rw [hq, gsL_end (by unfold glim; omega)]) (by rw [hq, gsL_end (by unfold glim; omega)]; rfl)) (by omega) (by omega)
              · refine v_iload X dX5_goesOn_73 7 rfl ?_
                refine v_bipush X dX5_goesOn_75 (v := nI 8) (by decide) ?_
                refine v_icmpN_ge X dX5_goesOn_77 (tgt := 172) (by decide) (by omega) (by decide) (fun h77 => ?_) (fun h77 => ?_)
                · refine v_iconst X dX5_goesOn_172 (v := nI 0) (by decide) ?_
                  exact v_zret X Y dX5_goesOn_173 (by decide) (wrI_of (by rw [hq, gsL_end (by unfold glim; omega)]) (by rw [hq, gsL_end (by unfold glim; omega)]; rfl)) (by omega) (by omega)
                · refine v_iload X dX5_goesOn_80 7 rfl ?_
                  refine v_iload X dX5_goesOn_82 4 rfl ?_
                  refine v_icmpN_ge X dX5_goesOn_84 (tgt := 97) (by decide) (by omega) (by omega) (fun h84 => ?_) (fun h84 => ?_)
                  · refine v_ldc2 X dX5_goesOn_97 cs_X5_47 ?_
                    refine v_lstore X dX5_goesOn_100 (by decide) (lv' := [(9, .long (-1)), (0, .ref h), (1, .ref g), (2, .ref h2), (3, .int (nI c)), (4, .int (nI us)), (5, .int (nI men)), (6, .long (lN (skF Fs Ft (2 ^ c) t2 (allS (cy 4)) (cy 5)))), (8, .int (nI vm))]) rfl ?_
                    refine v_lload X dX5_goesOn_102 0 rfl ?_
                    refine v_lload X dX5_goesOn_104 7 rfl ?_
                    refine v_land X dX5_goesOn_106 ?_
                    refine v_lconst X dX5_goesOn_107 (v := lN 0) (by decide) ?_
                    refine v_lcmp X dX5_goesOn_108 ?_
                    refine v_ifL_eq X dX5_goesOn_109 (tgt := 166) (by decide) (fun h109 => ?_) (fun h109 => ?_)
                    · refine v_iinc X dX5_goesOn_166 8 rfl (v := nI (vm + 1)) (nI_inc vm) (by decide) (lv' := [(8, .int (nI (vm + 1))), (9, .long (-1)), (0, .ref h), (1, .ref g), (2, .ref h2), (3, .int (nI c)), (4, .int (nI us)), (5, .int (nI men)), (6, .long (lN (skF Fs Ft (2 ^ c) t2 (allS (cy 4)) (cy 5))))]) rfl ?_
                      refine v_goto X dX5_goesOn_169 (tgt := 59) (by decide) ?_
                      refine V.lvs [2, 3, 4, 5, 6, 7, 8, 0] rfl ?_
                      exact ih59 (vm + 1) vr vs (⟨by omega, hq.trans (gsL_skip (w := (vr, vs)) (by unfold glim; omega) (by rw [gsB_ge (Nat.not_lt.mpr h84)]; exact h109))⟩) (by omega)
                    · refine v_aload_n X dX5_goesOn_112 rfl 1 rfl ?_
                      refine v_get X kcX5 fl_X5_9 dX5_goesOn_113 0 rfl rfl ?_
                      refine v_iload_n X dX5_goesOn_116 rfl 4 rfl ?_
                      refine v_iload X dX5_goesOn_117 8 rfl ?_
                      refine v_iast X dX5_goesOn_119 1 rfl (by omega) (by decide) (ws' := [ob h 5 [.ref hr, .ref hs], aI E hr 8 (upd vr c (nI vm)), aL E hs 8 vs, ob g 0 [.int (nI (cy 0)), .int (nI (cy 1)), .int (nI (cy 2)), .int (nI (cy 3)), .int (nI (cy 4)), .int (nI (cy 5)), .int (nI (cy 6)), .int (nI (cy 7)), .ref (ca 0), .ref (ca 1), .ref (ca 2), .ref (ca 3), .ref (ca 4), .ref (ca 5), .ref (ca 6), .ref (ca 7), .ref (ca 8), .ref (ca 9), .ref (ca 10), .ref (ca 11)], aM E (ca 5) 8 Fs, aM E (ca 6) 8 Ft, ob h2 2 [.ref hi2, .ref hm2, .int (nI t2), .int (nI dd2)], aN E hi2 8 ink2, aI E hm2 8 mn2]) rfl ?_
                      refine v_aload_n X dX5_goesOn_120 rfl 1 rfl ?_
                      refine v_get X kcX5 fl_X5_15 dX5_goesOn_121 0 rfl rfl ?_
                      refine v_iload X dX5_goesOn_124 8 rfl ?_
                      refine v_lload X dX5_goesOn_126 0 rfl ?_
                      refine v_lload X dX5_goesOn_128 7 rfl ?_
                      refine v_land X dX5_goesOn_130 ?_
                      refine v_last X dX5_goesOn_131 2 rfl (by omega) (by decide) (ws' := [ob h 5 [.ref hr, .ref hs], aI E hr 8 (upd vr c (nI vm)), aL E hs 8 (vp_updL vs vm ((-1) &&& (lN (skF Fs Ft (2 ^ c) t2 (allS (cy 4)) (cy 5))))), ob g 0 [.int (nI (cy 0)), .int (nI (cy 1)), .int (nI (cy 2)), .int (nI (cy 3)), .int (nI (cy 4)), .int (nI (cy 5)), .int (nI (cy 6)), .int (nI (cy 7)), .ref (ca 0), .ref (ca 1), .ref (ca 2), .ref (ca 3), .ref (ca 4), .ref (ca 5), .ref (ca 6), .ref (ca 7), .ref (ca 8), .ref (ca 9), .ref (ca 10), .ref (ca 11)], aM E (ca 5) 8 Fs, aM E (ca 6) 8 Ft, ob h2 2 [.ref hi2, .ref hm2, .int (nI t2), .int (nI dd2)], aN E hi2 8 ink2, aI E hm2 8 mn2]) rfl ?_
                      refine v_aload_n X dX5_goesOn_132 rfl 1 rfl ?_
                      refine v_aload_n X dX5_goesOn_133 rfl 2 rfl ?_
                      refine v_aload_n X dX5_goesOn_134 rfl 3 rfl ?_
                      refine v_iload_n X dX5_goesOn_135 rfl 4 rfl ?_
                      refine v_iconst X dX5_goesOn_136 (v := nI 1) (by decide) ?_
                      refine v_iadd X dX5_goesOn_137 ?_
                      refine v_eqi (x' := nI (c + 1)) (nI_add _ _) ?_
                      refine v_iload X dX5_goesOn_138 5 rfl ?_
                      refine v_iload X dX5_goesOn_140 8 rfl ?_
                      refine v_iconst X dX5_goesOn_142 (v := nI 1) (by decide) ?_
                      refine v_iadd X dX5_goesOn_143 ?_
                      refine v_eqi (x' := nI (vm + 1)) (nI_add _ _) ?_
                      refine v_max X ml_X5_49 mw_max1 mw_max2 mw_max3 dX5_goesOn_144 (by omega) (by omega) (by omega) (Nat.le_of_ble_eq_true rfl) ?_
                      refine v_eqi (x' := nI (max us (vm + 1))) (nI_max2 (by omega) (by omega)) ?_
                      refine v_iload X dX5_goesOn_147 6 rfl ?_
                      refine v_wrI1 X (rn_V X k_X5_goesOn ml_X5_30 dX5_goesOn_149 (ih (max us (vm + 1)) (upd vr c (nI vm)) (vp_updL vs vm ((-1) &&& (lN (skF Fs Ft (2 ^ c) t2 (allS (cy 4)) (cy 5))))) (by first | assumption | omega)) rfl 0 rfl rfl (by omega) (by decide) (by omega) (by omega) (Nat.le_of_ble_eq_true rfl)) [0, 1, 2, 3, 4, 5, 6, 7, 8] rfl rfl (ws' := [ob h 5 [.ref hr, .ref hs], aI E hr 8 ((gsF (gsK cy Fs Ft t2) ink2 men n (c + 1) (max us (vm + 1)) ((upd vr c (nI vm)), (vp_updL vs vm ((-1) &&& (lN (skF Fs Ft (2 ^ c) t2 (allS (cy 4)) (cy 5))))))).2.1), aL E hs 8 ((gsF (gsK cy Fs Ft t2) ink2 men n (c + 1) (max us (vm + 1)) ((upd vr c (nI vm)), (vp_updL vs vm ((-1) &&& (lN (skF Fs Ft (2 ^ c) t2 (allS (cy 4)) (cy 5))))))).2.2), ob g 0 [.int (nI (cy 0)), .int (nI (cy 1)), .int (nI (cy 2)), .int (nI (cy 3)), .int (nI (cy 4)), .int (nI (cy 5)), .int (nI (cy 6)), .int (nI (cy 7)), .ref (ca 0), .ref (ca 1), .ref (ca 2), .ref (ca 3), .ref (ca 4), .ref (ca 5), .ref (ca 6), .ref (ca 7), .ref (ca 8), .ref (ca 9), .ref (ca 10), .ref (ca 11)], aM E (ca 5) 8 Fs, aM E (ca 6) 8 Ft, ob h2 2 [.ref hi2, .ref hm2, .int (nI t2), .int (nI dd2)], aN E hi2 8 ink2, aI E hm2 8 mn2]) rfl rfl ?_
                      refine v_ifB_eq X dX5_goesOn_152 (tgt := 157) (by decide) (fun h152 => ?_) (fun h152 => ?_)
                      · refine v_aload_n X dX5_goesOn_157 rfl 1 rfl ?_
                        refine v_get X kcX5 fl_X5_15 dX5_goesOn_158 0 rfl rfl ?_
                        refine v_iload X dX5_goesOn_161 8 rfl ?_
                        refine v_lload X dX5_goesOn_163 0 rfl ?_
                        refine v_last X dX5_goesOn_165 2 rfl (by omega) (by decide) (ws' := [ob h 5 [.ref hr, .ref hs], aI E hr 8 ((gsF (gsK cy Fs Ft t2) ink2 men n (c + 1) (max us (vm + 1)) ((upd vr c (nI vm)), (vp_updL vs vm ((-1) &&& (lN (skF Fs Ft (2 ^ c) t2 (allS (cy 4)) (cy 5))))))).2.1), aL E hs 8 (vp_updL ((gsF (gsK cy Fs Ft t2) ink2 men n (c + 1) (max us (vm + 1)) ((upd vr c (nI vm)), (vp_updL vs vm ((-1) &&& (lN (skF Fs Ft (2 ^ c) t2 (allS (cy 4)) (cy 5))))))).2.2) vm (-1)), ob g 0 [.int (nI (cy 0)), .int (nI (cy 1)), .int (nI (cy 2)), .int (nI (cy 3)), .int (nI (cy 4)), .int (nI (cy 5)), .int (nI (cy 6)), .int (nI (cy 7)), .ref (ca 0), .ref (ca 1), .ref (ca 2), .ref (ca 3), .ref (ca 4), .ref (ca 5), .ref (ca 6), .ref (ca 7), .ref (ca 8), .ref (ca 9), .ref (ca 10), .ref (ca 11)], aM E (ca 5) 8 Fs, aM E (ca 6) 8 Ft, ob h2 2 [.ref hi2, .ref hm2, .int (nI t2), .int (nI dd2)], aN E hi2 8 ink2, aI E hm2 8 mn2]) rfl ?_
                        refine v_iinc X dX5_goesOn_166 8 rfl (v := nI (vm + 1)) (nI_inc vm) (by decide) (lv' := [(8, .int (nI (vm + 1))), (9, .long (-1)), (0, .ref h), (1, .ref g), (2, .ref h2), (3, .int (nI c)), (4, .int (nI us)), (5, .int (nI men)), (6, .long (lN (skF Fs Ft (2 ^ c) t2 (allS (cy 4)) (cy 5))))]) rfl ?_
                        refine v_goto X dX5_goesOn_169 (tgt := 59) (by decide) ?_
                        refine V.lvs [2, 3, 4, 5, 6, 7, 8, 0] rfl ?_
                        exact ih59 (vm + 1) ((gsF (gsK cy Fs Ft t2) ink2 men n (c + 1) (max us (vm + 1)) ((upd vr c (nI vm)), (vp_updL vs vm ((-1) &&& (lN (skF Fs Ft (2 ^ c) t2 (allS (cy 4)) (cy 5))))))).2.1) (vp_updL ((gsF (gsK cy Fs Ft t2) ink2 men n (c + 1) (max us (vm + 1)) ((upd vr c (nI vm)), (vp_updL vs vm ((-1) &&& (lN (skF Fs Ft (2 ^ c) t2 (allS (cy 4)) (cy 5))))))).2.2) vm (-1)) (⟨by omega, hq.trans (by rw [gsL_back (w := (vr, vs)) (by unfold glim; omega) (by rw [gsB_ge (Nat.not_lt.mpr h84)]; exact h109) (by rw [gsB_ge (Nat.not_lt.mpr h84)]; exact h152), gsB_ge (Nat.not_lt.mpr h84)]; rfl)⟩) (by omega)
                      · refine v_iconst X dX5_goesOn_155 (v := nI 1) (by decide) ?_
                        exact v_zret X Y dX5_goesOn_156 (by decide) (wrI_of (by rw [hq, gsL_yes (w := (vr, vs)) (by unfold glim; omega) (by rw [gsB_ge (Nat.not_lt.mpr h84)]; exact h109) (by rw [gsB_ge (Nat.not_lt.mpr h84)]; exact h152), gsB_ge (Nat.not_lt.mpr h84)] <;> rfl) (by rw [hq, gsL_yes (w := (vr, vs)) (by unfold glim; omega) (by rw [gsB_ge (Nat.not_lt.mpr h84)]; exact h109) (by rw [gsB_ge (Nat.not_lt.mpr h84)]; exact h152), gsB_ge (Nat.not_lt.mpr h84)]; exact (congrArg (fun q : Bool => nI q.toNat) h152).symm)) (by omega) (by omega)
                  · refine v_aload_n X dX5_goesOn_87 rfl 0 rfl ?_
                    refine v_get X kcX5 fl_X5_15 dX5_goesOn_88 0 rfl rfl ?_
                    refine v_iload X dX5_goesOn_91 7 rfl ?_
                    refine v_lald X dX5_goesOn_93 2 rfl (by omega) (by decide) ?_
                    refine v_goto X dX5_goesOn_94 (tgt := 100) (by decide) ?_
                    refine v_lstore X dX5_goesOn_100 (by decide) (lv' := [(9, .long (vs vm)), (0, .ref h), (1, .ref g), (2, .ref h2), (3, .int (nI c)), (4, .int (nI us)), (5, .int (nI men)), (6, .long (lN (skF Fs Ft (2 ^ c) t2 (allS (cy 4)) (cy 5)))), (8, .int (nI vm))]) rfl ?_
                    refine v_lload X dX5_goesOn_102 0 rfl ?_
                    refine v_lload X dX5_goesOn_104 7 rfl ?_
                    refine v_land X dX5_goesOn_106 ?_
                    refine v_lconst X dX5_goesOn_107 (v := lN 0) (by decide) ?_
                    refine v_lcmp X dX5_goesOn_108 ?_
                    refine v_ifL_eq X dX5_goesOn_109 (tgt := 166) (by decide) (fun h109 => ?_) (fun h109 => ?_)
                    · refine v_iinc X dX5_goesOn_166 8 rfl (v := nI (vm + 1)) (nI_inc vm) (by decide) (lv' := [(8, .int (nI (vm + 1))), (9, .long (vs vm)), (0, .ref h), (1, .ref g), (2, .ref h2), (3, .int (nI c)), (4, .int (nI us)), (5, .int (nI men)), (6, .long (lN (skF Fs Ft (2 ^ c) t2 (allS (cy 4)) (cy 5))))]) rfl ?_
                      refine v_goto X dX5_goesOn_169 (tgt := 59) (by decide) ?_
                      refine V.lvs [2, 3, 4, 5, 6, 7, 8, 0] rfl ?_
                      exact ih59 (vm + 1) vr vs (⟨by omega, hq.trans (gsL_skip (w := (vr, vs)) (by unfold glim; omega) (by rw [gsB_lt (Nat.not_le.mp h84)]; exact h109))⟩) (by omega)
                    · refine v_aload_n X dX5_goesOn_112 rfl 1 rfl ?_
                      refine v_get X kcX5 fl_X5_9 dX5_goesOn_113 0 rfl rfl ?_
                      refine v_iload_n X dX5_goesOn_116 rfl 4 rfl ?_
                      refine v_iload X dX5_goesOn_117 8 rfl ?_
                      refine v_iast X dX5_goesOn_119 1 rfl (by omega) (by decide) (ws' := [ob h 5 [.ref hr, .ref hs], aI E hr 8 (upd vr c (nI vm)), aL E hs 8 vs, ob g 0 [.int (nI (cy 0)), .int (nI (cy 1)), .int (nI (cy 2)), .int (nI (cy 3)), .int (nI (cy 4)), .int (nI (cy 5)), .int (nI (cy 6)), .int (nI (cy 7)), .ref (ca 0), .ref (ca 1), .ref (ca 2), .ref (ca 3), .ref (ca 4), .ref (ca 5), .ref (ca 6), .ref (ca 7), .ref (ca 8), .ref (ca 9), .ref (ca 10), .ref (ca 11)], aM E (ca 5) 8 Fs, aM E (ca 6) 8 Ft, ob h2 2 [.ref hi2, .ref hm2, .int (nI t2), .int (nI dd2)], aN E hi2 8 ink2, aI E hm2 8 mn2]) rfl ?_
                      refine v_aload_n X dX5_goesOn_120 rfl 1 rfl ?_
                      refine v_get X kcX5 fl_X5_15 dX5_goesOn_121 0 rfl rfl ?_
                      refine v_iload X dX5_goesOn_124 8 rfl ?_
                      refine v_lload X dX5_goesOn_126 0 rfl ?_
                      refine v_lload X dX5_goesOn_128 7 rfl ?_
                      refine v_land X dX5_goesOn_130 ?_
                      refine v_last X dX5_goesOn_131 2 rfl (by omega) (by decide) (ws' := [ob h 5 [.ref hr, .ref hs], aI E hr 8 (upd vr c (nI vm)), aL E hs 8 (vp_updL vs vm ((vs vm) &&& (lN (skF Fs Ft (2 ^ c) t2 (allS (cy 4)) (cy 5))))), ob g 0 [.int (nI (cy 0)), .int (nI (cy 1)), .int (nI (cy 2)), .int (nI (cy 3)), .int (nI (cy 4)), .int (nI (cy 5)), .int (nI (cy 6)), .int (nI (cy 7)), .ref (ca 0), .ref (ca 1), .ref (ca 2), .ref (ca 3), .ref (ca 4), .ref (ca 5), .ref (ca 6), .ref (ca 7), .ref (ca 8), .ref (ca 9), .ref (ca 10), .ref (ca 11)], aM E (ca 5) 8 Fs, aM E (ca 6) 8 Ft, ob h2 2 [.ref hi2, .ref hm2, .int (nI t2), .int (nI dd2)], aN E hi2 8 ink2, aI E hm2 8 mn2]) rfl ?_
                      refine v_aload_n X dX5_goesOn_132 rfl 1 rfl ?_
                      refine v_aload_n X dX5_goesOn_133 rfl 2 rfl ?_
                      refine v_aload_n X dX5_goesOn_134 rfl 3 rfl ?_
                      refine v_iload_n X dX5_goesOn_135 rfl 4 rfl ?_
                      refine v_iconst X dX5_goesOn_136 (v := nI 1) (by decide) ?_
                      refine v_iadd X dX5_goesOn_137 ?_
                      refine v_eqi (x' := nI (c + 1)) (nI_add _ _) ?_
                      refine v_iload X dX5_goesOn_138 5 rfl ?_
                      refine v_iload X dX5_goesOn_140 8 rfl ?_
                      refine v_iconst X dX5_goesOn_142 (v := nI 1) (by decide) ?_
                      refine v_iadd X dX5_goesOn_143 ?_
                      refine v_eqi (x' := nI (vm + 1)) (nI_add _ _) ?_
                      refine v_max X ml_X5_49 mw_max1 mw_max2 mw_max3 dX5_goesOn_144 (by omega) (by omega) (by omega) (Nat.le_of_ble_eq_true rfl) ?_
                      refine v_eqi (x' := nI (max us (vm + 1))) (nI_max2 (by omega) (by omega)) ?_
                      refine v_iload X dX5_goesOn_147 6 rfl ?_
                      refine v_wrI1 X (rn_V X k_X5_goesOn ml_X5_30 dX5_goesOn_149 (ih (max us (vm + 1)) (upd vr c (nI vm)) (vp_updL vs vm ((vs vm) &&& (lN (skF Fs Ft (2 ^ c) t2 (allS (cy 4)) (cy 5))))) (by first | assumption | omega)) rfl 0 rfl rfl (by omega) (by decide) (by omega) (by omega) (Nat.le_of_ble_eq_true rfl)) [0, 1, 2, 3, 4, 5, 6, 7, 8] rfl rfl (ws' := [ob h 5 [.ref hr, .ref hs], aI E hr 8 ((gsF (gsK cy Fs Ft t2) ink2 men n (c + 1) (max us (vm + 1)) ((upd vr c (nI vm)), (vp_updL vs vm ((vs vm) &&& (lN (skF Fs Ft (2 ^ c) t2 (allS (cy 4)) (cy 5))))))).2.1), aL E hs 8 ((gsF (gsK cy Fs Ft t2) ink2 men n (c + 1) (max us (vm + 1)) ((upd vr c (nI vm)), (vp_updL vs vm ((vs vm) &&& (lN (skF Fs Ft (2 ^ c) t2 (allS (cy 4)) (cy 5))))))).2.2), ob g 0 [.int (nI (cy 0)), .int (nI (cy 1)), .int (nI (cy 2)), .int (nI (cy 3)), .int (nI (cy 4)), .int (nI (cy 5)), .int (nI (cy 6)), .int (nI (cy 7)), .ref (ca 0), .ref (ca 1), .ref (ca 2), .ref (ca 3), .ref (ca 4), .ref (ca 5), .ref (ca 6), .ref (ca 7), .ref (ca 8), .ref (ca 9), .ref (ca 10), .ref (ca 11)], aM E (ca 5) 8 Fs, aM E (ca 6) 8 Ft, ob h2 2 [.ref hi2, .ref hm2, .int (nI t2), .int (nI dd2)], aN E hi2 8 ink2, aI E hm2 8 mn2]) rfl rfl ?_
                      refine v_ifB_eq X dX5_goesOn_152 (tgt := 157) (by decide) (fun h152 => ?_) (fun h152 => ?_)
                      · refine v_aload_n X dX5_goesOn_157 rfl 1 rfl ?_
                        refine v_get X kcX5 fl_X5_15 dX5_goesOn_158 0 rfl rfl ?_
                        refine v_iload X dX5_goesOn_161 8 rfl ?_
                        refine v_lload X dX5_goesOn_163 0 rfl ?_
                        refine v_last X dX5_goesOn_165 2 rfl (by omega) (by decide) (ws' := [ob h 5 [.ref hr, .ref hs], aI E hr 8 ((gsF (gsK cy Fs Ft t2) ink2 men n (c + 1) (max us (vm + 1)) ((upd vr c (nI vm)), (vp_updL vs vm ((vs vm) &&& (lN (skF Fs Ft (2 ^ c) t2 (allS (cy 4)) (cy 5))))))).2.1), aL E hs 8 (vp_updL ((gsF (gsK cy Fs Ft t2) ink2 men n (c + 1) (max us (vm + 1)) ((upd vr c (nI vm)), (vp_updL vs vm ((vs vm) &&& (lN (skF Fs Ft (2 ^ c) t2 (allS (cy 4)) (cy 5))))))).2.2) vm (vs vm)), ob g 0 [.int (nI (cy 0)), .int (nI (cy 1)), .int (nI (cy 2)), .int (nI (cy 3)), .int (nI (cy 4)), .int (nI (cy 5)), .int (nI (cy 6)), .int (nI (cy 7)), .ref (ca 0), .ref (ca 1), .ref (ca 2), .ref (ca 3), .ref (ca 4), .ref (ca 5), .ref (ca 6), .ref (ca 7), .ref (ca 8), .ref (ca 9), .ref (ca 10), .ref (ca 11)], aM E (ca 5) 8 Fs, aM E (ca 6) 8 Ft, ob h2 2 [.ref hi2, .ref hm2, .int (nI t2), .int (nI dd2)], aN E hi2 8 ink2, aI E hm2 8 mn2]) rfl ?_
                        refine v_iinc X dX5_goesOn_166 8 rfl (v := nI (vm + 1)) (nI_inc vm) (by decide) (lv' := [(8, .int (nI (vm + 1))), (9, .long (vs vm)), (0, .ref h), (1, .ref g), (2, .ref h2), (3, .int (nI c)), (4, .int (nI us)), (5, .int (nI men)), (6, .long (lN (skF Fs Ft (2 ^ c) t2 (allS (cy 4)) (cy 5))))]) rfl ?_
                        refine v_goto X dX5_goesOn_169 (tgt := 59) (by decide) ?_
                        refine V.lvs [2, 3, 4, 5, 6, 7, 8, 0] rfl ?_
                        exact ih59 (vm + 1) ((gsF (gsK cy Fs Ft t2) ink2 men n (c + 1) (max us (vm + 1)) ((upd vr c (nI vm)), (vp_updL vs vm ((vs vm) &&& (lN (skF Fs Ft (2 ^ c) t2 (allS (cy 4)) (cy 5))))))).2.1) (vp_updL ((gsF (gsK cy Fs Ft t2) ink2 men n (c + 1) (max us (vm + 1)) ((upd vr c (nI vm)), (vp_updL vs vm ((vs vm) &&& (lN (skF Fs Ft (2 ^ c) t2 (allS (cy 4)) (cy 5))))))).2.2) vm (vs vm)) (⟨by omega, hq.trans (by rw [gsL_back (w := (vr, vs)) (by unfold glim; omega) (by rw [gsB_lt (Nat.not_le.mp h84)]; exact h109) (by rw [gsB_lt (Nat.not_le.mp h84)]; exact h152), gsB_lt (Nat.not_le.mp h84)]; rfl)⟩) (by omega)
                      · refine v_iconst X dX5_goesOn_155 (v := nI 1) (by decide) ?_
                        exact v_zret X Y dX5_goesOn_156 (by decide) (wrI_of (by rw [hq, gsL_yes (w := (vr, vs)) (by unfold glim; omega) (by rw [gsB_lt (Nat.not_le.mp h84)]; exact h109) (by rw [gsB_lt (Nat.not_le.mp h84)]; exact h152), gsB_lt (Nat.not_le.mp h84)] <;> rfl) (by rw [hq, gsL_yes (w := (vr, vs)) (by unfold glim; omega) (by rw [gsB_lt (Nat.not_le.mp h84)]; exact h109) (by rw [gsB_lt (Nat.not_le.mp h84)]; exact h152), gsB_lt (Nat.not_le.mp h84)]; exact (congrArg (fun q : Bool => nI q.toNat) h152).symm)) (by omega) (by omega)
        refine V.lvs [2, 3, 4, 5, 6, 7, 1, 0] rfl ?_
        exact L59 _ 0 row sl (⟨by omega, gsF_n h18⟩) (Nat.lt_succ_self _)
      · refine v_aload_n X dX5_goesOn_21 rfl 0 rfl ?_
        refine v_get X kcX5 fl_X5_9 dX5_goesOn_22 0 rfl rfl ?_
        refine v_iload_n X dX5_goesOn_25 rfl 3 rfl ?_
        refine v_bipush X dX5_goesOn_26 (v := (-2)) (by decide) ?_
        refine v_iast X dX5_goesOn_28 1 rfl (by omega) (by decide) (ws' := [ob h 5 [.ref hr, .ref hs], aI E hr 8 (upd row c (-2)), aL E hs 8 sl, ob g 0 [.int (nI (cy 0)), .int (nI (cy 1)), .int (nI (cy 2)), .int (nI (cy 3)), .int (nI (cy 4)), .int (nI (cy 5)), .int (nI (cy 6)), .int (nI (cy 7)), .ref (ca 0), .ref (ca 1), .ref (ca 2), .ref (ca 3), .ref (ca 4), .ref (ca 5), .ref (ca 6), .ref (ca 7), .ref (ca 8), .ref (ca 9), .ref (ca 10), .ref (ca 11)], aM E (ca 5) 8 Fs, aM E (ca 6) 8 Ft, ob h2 2 [.ref hi2, .ref hm2, .int (nI t2), .int (nI dd2)], aN E hi2 8 ink2, aI E hm2 8 mn2]) rfl ?_
        refine v_aload_n X dX5_goesOn_29 rfl 0 rfl ?_
        refine v_aload_n X dX5_goesOn_30 rfl 1 rfl ?_
        refine v_aload_n X dX5_goesOn_31 rfl 2 rfl ?_
        refine v_iload_n X dX5_goesOn_32 rfl 3 rfl ?_
        refine v_iconst X dX5_goesOn_33 (v := nI 1) (by decide) ?_
        refine v_iadd X dX5_goesOn_34 ?_
        refine v_eqi (x' := nI (c + 1)) (nI_add _ _) ?_
        refine v_iload X dX5_goesOn_35 4 rfl ?_
        refine v_iload X dX5_goesOn_37 5 rfl ?_
        refine v_wrI1 X (rn_V X k_X5_goesOn ml_X5_30 dX5_goesOn_39 (ih us (upd row c (-2)) sl (by first | assumption | omega)) rfl 0 rfl rfl (by omega) (by decide) (by omega) (by omega) (Nat.le_of_ble_eq_true rfl)) [0, 1, 2, 3, 4, 5, 6, 7, 8] rfl rfl (ws' := [ob h 5 [.ref hr, .ref hs], aI E hr 8 ((gsF (gsK cy Fs Ft t2) ink2 men n (c + 1) us ((upd row c (-2)), sl)).2.1), aL E hs 8 ((gsF (gsK cy Fs Ft t2) ink2 men n (c + 1) us ((upd row c (-2)), sl)).2.2), ob g 0 [.int (nI (cy 0)), .int (nI (cy 1)), .int (nI (cy 2)), .int (nI (cy 3)), .int (nI (cy 4)), .int (nI (cy 5)), .int (nI (cy 6)), .int (nI (cy 7)), .ref (ca 0), .ref (ca 1), .ref (ca 2), .ref (ca 3), .ref (ca 4), .ref (ca 5), .ref (ca 6), .ref (ca 7), .ref (ca 8), .ref (ca 9), .ref (ca 10), .ref (ca 11)], aM E (ca 5) 8 Fs, aM E (ca 6) 8 Ft, ob h2 2 [.ref hi2, .ref hm2, .int (nI t2), .int (nI dd2)], aN E hi2 8 ink2, aI E hm2 8 mn2]) rfl rfl ?_
        exact v_zret X Y dX5_goesOn_42 (nb_bool _) (wrI_of (by rw [gsF_z h18]) (by rw [gsF_z h18])) (by omega) (by omega)
    · exfalso; omega
