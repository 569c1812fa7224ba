set_option maxRecDepth 100000 in
set_option maxHeartbeats 4000000 in
theorem c_X2_becomes (l : Launch) (E : Et) (h : Nat) (hi : Nat) (hm : Nat) (t : Nat) (dd : Nat) (ink : Nat → Nat) (mn : Nat → Int32) (h2 : Nat) (hi2 : Nat) (hm2 : Nat) (t2 : Nat) (dd2 : Nat) (ink2 : Nat → Nat) (mn2 : Nat → Int32)  : Ct l E yX2_becomes cX2_becomes 3 none 0 0 0 [.ref h, .ref h2] [ob h 2 [.ref hi, .ref hm, .int (nI t), .int (nI dd)], aN E hi 8 ink, aI E hm 8 mn, ob h2 2 [.ref hi2, .ref hm2, .int (nI t2), .int (nI dd2)], aN E hi2 8 ink2, aI E hm2 8 mn2] (wrV [ob h 2 [.ref hi, .ref hm, .int (nI t2), .int (nI dd2)], aN E hi 8 ink2, aI E hm 8 mn2, ob h2 2 [.ref hi2, .ref hm2, .int (nI t2), .int (nI dd2)], aN E hi2 8 ink2, aI E hm2 8 mn2]) := by
  refine Ct.intro (by decide +kernel) (Nat.le_of_ble_eq_true rfl) (lv := [(0, .ref h), (1, .ref h2)]) rfl ?_
  intro Z X Y
  refine v_iconst X dX2_becomes_0 (v := nI 0) (by decide) ?_
  refine v_istore_n X dX2_becomes_1 rfl (by decide) (lv' := [(2, .int (nI 0)), (0, .ref h), (1, .ref h2)]) rfl ?_
  have L2 : ∀ (j2 : Nat) (vc : Nat) (vg : Nat → Nat) (vf : Nat → Int32), (vc ≤ 8 ∧ (∀ j, j < vc → vg j = ink2 j) ∧ (∀ j, j < vc → vf j = mn2 j)) → 8 - vc < j2 → V E Z 2 [(0, .ref h), (1, .ref h2), (2, .int (nI vc))] [] [ob h 2 [.ref hi, .ref hm, .int (nI t), .int (nI dd)], aN E hi 8 vg, aI E hm 8 vf, ob h2 2 [.ref hi2, .ref hm2, .int (nI t2), .int (nI dd2)], aN E hi2 8 ink2, aI E hm2 8 mn2] 0 0 := by
    intro j2
    induction j2 with
    | zero => intro vc vg vf hI hM; exact absurd hM (Nat.not_lt_zero _)
    | succ j2 ih2 =>
      intro vc vg vf hI2 hM2
      obtain ⟨hc, hg, hf⟩ := id hI2
      refine v_iload_n X dX2_becomes_2 rfl 2 rfl ?_
      refine v_bipush X dX2_becomes_3 (v := nI 8) (by decide) ?_
      refine v_icmpN_ge X dX2_becomes_5 (tgt := 38) (by decide) (by omega) (by decide) (fun h5 => ?_) (fun h5 => ?_)
      · refine V.arN 1 rfl (g' := ink2) (fun j hj => hg j (by omega)) (ws' := [ob h 2 [.ref hi, .ref hm, .int (nI t), .int (nI dd)], aN E hi 8 ink2, aI E hm 8 vf, ob h2 2 [.ref hi2, .ref hm2, .int (nI t2), .int (nI dd2)], aN E hi2 8 ink2, aI E hm2 8 mn2]) rfl ?_
        refine V.arI 2 rfl (g' := mn2) (fun j hj => hf j (by omega)) (ws' := [ob h 2 [.ref hi, .ref hm, .int (nI t), .int (nI dd)], aN E hi 8 ink2, aI E hm 8 mn2, ob h2 2 [.ref hi2, .ref hm2, .int (nI t2), .int (nI dd2)], aN E hi2 8 ink2, aI E hm2 8 mn2]) rfl ?_
        refine v_aload_n X dX2_becomes_38 rfl 0 rfl ?_
        refine v_aload_n X dX2_becomes_39 rfl 1 rfl ?_
        refine v_get X kcX2 fl_X2_18 dX2_becomes_40 3 rfl rfl ?_
        refine v_put X kcX2 fl_X2_18 dX2_becomes_43 0 rfl (ws' := [ob h 2 [.ref hi, .ref hm, .int (nI t2), .int (nI dd)], aN E hi 8 ink2, aI E hm 8 mn2, ob h2 2 [.ref hi2, .ref hm2, .int (nI t2), .int (nI dd2)], aN E hi2 8 ink2, aI E hm2 8 mn2]) rfl rfl ?_
        refine v_aload_n X dX2_becomes_46 rfl 0 rfl ?_
        refine v_aload_n X dX2_becomes_47 rfl 1 rfl ?_
        refine v_get X kcX2 fl_X2_22 dX2_becomes_48 3 rfl rfl ?_
        refine v_put X kcX2 fl_X2_22 dX2_becomes_51 0 rfl (ws' := [ob h 2 [.ref hi, .ref hm, .int (nI t2), .int (nI dd2)], aN E hi 8 ink2, aI E hm 8 mn2, ob h2 2 [.ref hi2, .ref hm2, .int (nI t2), .int (nI dd2)], aN E hi2 8 ink2, aI E hm2 8 mn2]) rfl rfl ?_
        exact v_vret X Y dX2_becomes_54 (wrV_of rfl) (by omega) (by omega)
      · refine v_aload_n X dX2_becomes_8 rfl 0 rfl ?_
        refine v_get X kcX2 fl_X2_9 dX2_becomes_9 0 rfl rfl ?_
        refine v_iload_n X dX2_becomes_12 rfl 2 rfl ?_
        refine v_aload_n X dX2_becomes_13 rfl 1 rfl ?_
        refine v_get X kcX2 fl_X2_9 dX2_becomes_14 3 rfl rfl ?_
        refine v_iload_n X dX2_becomes_17 rfl 2 rfl ?_
        refine v_iald X dX2_becomes_18 4 rfl (by omega) (by decide) ?_
        refine v_iast X dX2_becomes_19 1 rfl (by omega) (by decide) (ws' := [ob h 2 [.ref hi, .ref hm, .int (nI t), .int (nI dd)], aN E hi 8 (upN vg vc (ink2 vc)), aI E hm 8 vf, ob h2 2 [.ref hi2, .ref hm2, .int (nI t2), .int (nI dd2)], aN E hi2 8 ink2, aI E hm2 8 mn2]) (by rw [upd_nI]; rfl) ?_
        refine v_aload_n X dX2_becomes_20 rfl 0 rfl ?_
        refine v_get X kcX2 fl_X2_15 dX2_becomes_21 0 rfl rfl ?_
        refine v_iload_n X dX2_becomes_24 rfl 2 rfl ?_
        refine v_aload_n X dX2_becomes_25 rfl 1 rfl ?_
        refine v_get X kcX2 fl_X2_15 dX2_becomes_26 3 rfl rfl ?_
        refine v_iload_n X dX2_becomes_29 rfl 2 rfl ?_
        refine v_iald X dX2_becomes_30 5 rfl (by omega) (by decide) ?_
        refine v_iast X dX2_becomes_31 2 rfl (by omega) (by decide) (ws' := [ob h 2 [.ref hi, .ref hm, .int (nI t), .int (nI dd)], aN E hi 8 (upN vg vc (ink2 vc)), aI E hm 8 (upd vf vc (mn2 vc)), ob h2 2 [.ref hi2, .ref hm2, .int (nI t2), .int (nI dd2)], aN E hi2 8 ink2, aI E hm2 8 mn2]) rfl ?_
        refine v_iinc X dX2_becomes_32 2 rfl (v := nI (vc + 1)) (nI_inc vc) (by decide) (lv' := [(2, .int (nI (vc + 1))), (0, .ref h), (1, .ref h2)]) rfl ?_
        refine v_goto X dX2_becomes_35 (tgt := 2) (by decide) ?_
        refine V.lvs [1, 2, 0] rfl ?_
        exact ih2 (vc + 1) (upN vg vc (ink2 vc)) (upd vf vc (mn2 vc)) (⟨by omega, fillN hg rfl, fillI hf rfl⟩) (by omega)
  refine V.lvs [1, 2, 0] rfl ?_
  exact L2 _ 0 ink mn (⟨by omega, fun j hj => absurd hj (Nat.not_lt_zero j), fun j hj => absurd hj (Nat.not_lt_zero j)⟩) (Nat.lt_succ_self _)
set_option maxRecDepth 100000 in
set_option maxHeartbeats 4000000 in
theorem c_X2_clear (l : Launch) (E : Et) (h : Nat) (hi : Nat) (hm : Nat) (t : Nat) (dd : Nat) (ink : Nat → Nat) (mn : Nat → Int32)  : Ct l E yX2_clear cX2_clear 2 none 0 0 0 [.ref h] [ob h 2 [.ref hi, .ref hm, .int (nI t), .int (nI dd)], aN E hi 8 ink, aI E hm 8 mn] (wrV [ob h 2 [.ref hi, .ref hm, .int (nI 0), .int (nI 0)], aN E hi 8 (fun _ => 0), aI E hm 8 (fun _ => (-1))]) := by
  refine Ct.intro (by decide +kernel) (Nat.le_of_ble_eq_true rfl) (lv := [(0, .ref h)]) rfl ?_
  intro Z X Y
  refine v_iconst X dX2_clear_0 (v := nI 0) (by decide) ?_
  refine v_istore_n X dX2_clear_1 rfl (by decide) (lv' := [(1, .int (nI 0)), (0, .ref h)]) rfl ?_
  have L2 : ∀ (j2 : Nat) (vc : Nat) (vg : Nat → Nat) (vf : Nat → Int32), (vc ≤ 8 ∧ (∀ j, j < vc → vg j = 0) ∧ (∀ j, j < vc → vf j = (-1))) → 8 - vc < j2 → V E Z 2 [(0, .ref h), (1, .int (nI vc))] [] [ob h 2 [.ref hi, .ref hm, .int (nI t), .int (nI dd)], aN E hi 8 vg, aI E hm 8 vf] 0 0 := by
    intro j2
    induction j2 with
    | zero => intro vc vg vf hI hM; exact absurd hM (Nat.not_lt_zero _)
    | succ j2 ih2 =>
      intro vc vg vf hI2 hM2
      obtain ⟨hc, hg, hf⟩ := id hI2
      refine v_iload_n X dX2_clear_2 rfl 1 rfl ?_
      refine v_bipush X dX2_clear_3 (v := nI 8) (by decide) ?_
      refine v_icmpN_ge X dX2_clear_5 (tgt := 28) (by decide) (by omega) (by decide) (fun h5 => ?_) (fun h5 => ?_)
      · refine V.arN 1 rfl (g' := fun _ => 0) (fun j hj => hg j (by omega)) (ws' := [ob h 2 [.ref hi, .ref hm, .int (nI t), .int (nI dd)], aN E hi 8 (fun _ => 0), aI E hm 8 vf]) rfl ?_
        refine V.arI 2 rfl (g' := fun _ => (-1)) (fun j hj => hf j (by omega)) (ws' := [ob h 2 [.ref hi, .ref hm, .int (nI t), .int (nI dd)], aN E hi 8 (fun _ => 0), aI E hm 8 (fun _ => (-1))]) rfl ?_
        refine v_aload_n X dX2_clear_28 rfl 0 rfl ?_
        refine v_iconst X dX2_clear_29 (v := nI 0) (by decide) ?_
        refine v_put X kcX2 fl_X2_18 dX2_clear_30 0 rfl (ws' := [ob h 2 [.ref hi, .ref hm, .int (nI 0), .int (nI dd)], aN E hi 8 (fun _ => 0), aI E hm 8 (fun _ => (-1))]) rfl rfl ?_
        refine v_aload_n X dX2_clear_33 rfl 0 rfl ?_
        refine v_iconst X dX2_clear_34 (v := nI 0) (by decide) ?_
        refine v_put X kcX2 fl_X2_22 dX2_clear_35 0 rfl (ws' := [ob h 2 [.ref hi, .ref hm, .int (nI 0), .int (nI 0)], aN E hi 8 (fun _ => 0), aI E hm 8 (fun _ => (-1))]) rfl rfl ?_
        exact v_vret X Y dX2_clear_38 (wrV_of rfl) (by omega) (by omega)
      · refine v_aload_n X dX2_clear_8 rfl 0 rfl ?_
        refine v_get X kcX2 fl_X2_9 dX2_clear_9 0 rfl rfl ?_
        refine v_iload_n X dX2_clear_12 rfl 1 rfl ?_
        refine v_iconst X dX2_clear_13 (v := nI 0) (by decide) ?_
        refine v_iast X dX2_clear_14 1 rfl (by omega) (by decide) (ws' := [ob h 2 [.ref hi, .ref hm, .int (nI t), .int (nI dd)], aN E hi 8 (upN vg vc 0), aI E hm 8 vf]) (by rw [upd_nI]; rfl) ?_
        refine v_aload_n X dX2_clear_15 rfl 0 rfl ?_
        refine v_get X kcX2 fl_X2_15 dX2_clear_16 0 rfl rfl ?_
        refine v_iload_n X dX2_clear_19 rfl 1 rfl ?_
        refine v_iconst X dX2_clear_20 (v := (-1)) (by decide) ?_
        refine v_iast X dX2_clear_21 2 rfl (by omega) (by decide) (ws' := [ob h 2 [.ref hi, .ref hm, .int (nI t), .int (nI dd)], aN E hi 8 (upN vg vc 0), aI E hm 8 (upd vf vc (-1))]) rfl ?_
        refine v_iinc X dX2_clear_22 1 rfl (v := nI (vc + 1)) (nI_inc vc) (by decide) (lv' := [(1, .int (nI (vc + 1))), (0, .ref h)]) rfl ?_
        refine v_goto X dX2_clear_25 (tgt := 2) (by decide) ?_
        refine V.lvs [1, 0] rfl ?_
        exact ih2 (vc + 1) (upN vg vc 0) (upd vf vc (-1)) (⟨by omega, fillN (f := fun _ => 0) hg rfl, fillI (f := fun _ => (-1)) hf rfl⟩) (by omega)
  refine V.lvs [1, 0] rfl ?_
  exact L2 _ 0 ink mn (⟨by omega, fun j hj => absurd hj (Nat.not_lt_zero j), fun j hj => absurd hj (Nat.not_lt_zero j)⟩) (Nat.lt_succ_self _)
set_option maxRecDepth 100000 in
set_option maxHeartbeats 4000000 in
theorem c_X2_pressOn (l : Launch) (E : Et) (h : Nat) (hi : Nat) (hm : Nat) (t : Nat) (dd : Nat) (ink : Nat → Nat) (mn : Nat → Int32) (cl : Nat) (m : Int32) (ti : Nat) (bl : Nat) (hink : ∀ c, ink c ≤ 40) (hcl : cl < 8) (hbl : bl ≤ 9) : Ct l E yX2_pressOn cX2_pressOn 7 (some .int) 2 0 0 [.ref h, .int (nI cl), .int m, .int (nI ti), .int (nI bl)] [ob h 2 [.ref hi, .ref hm, .int (nI t), .int (nI dd)], aN E hi 8 ink, aI E hm 8 mn] (wrI [ob h 2 [.ref hi, .ref hm, .int (nI t), .int (nI dd)], aN E hi 8 (upN (blurN ink mn cl m bl) cl ti), aI E hm 8 (upd mn cl m)] (nI (lostB ink (blurN ink mn cl m bl)))) := by
  refine Ct.intro (by decide +kernel) (Nat.le_of_ble_eq_true rfl) (lv := [(0, .ref h), (1, .int (nI cl)), (2, .int m), (3, .int (nI ti)), (4, .int (nI bl))]) rfl ?_
  intro Z X Y
  refine v_iload_n X dX2_pressOn_0 rfl 1 rfl ?_
  refine v_if_lt X dX2_pressOn_1 (tgt := 10) (by decide) (fun h1 => ?_) (fun h1 => ?_)
  · exact absurd h1 (nI_pos (by omega))
  · refine v_iload_n X dX2_pressOn_4 rfl 1 rfl ?_
    refine v_bipush X dX2_pressOn_5 (v := nI 8) (by decide) ?_
    refine v_icmpN_lt X dX2_pressOn_7 (tgt := 12) (by decide) (by omega) (by decide) (fun h7 => ?_) (fun h7 => ?_)
    · refine v_aload_n X dX2_pressOn_12 rfl 0 rfl ?_
      refine v_iconst X dX2_pressOn_13 (v := nI 0) (by decide) ?_
      refine v_roI1 X (rn_V X k_X2_binding ml_X2_29 dX2_pressOn_14 (c_X2_binding l E h hi hm t dd ink 0 (by first | assumption | omega) (by omega)) rfl 0 rfl rfl (by decide) (by decide) (by omega) (by omega) (Nat.le_of_ble_eq_true rfl)) [0, 1] rfl rfl ?_
      refine v_istore X dX2_pressOn_17 (by decide) (lv' := [(5, .int (nI (bbits (fun c => decide (0 < ink c)) 8))), (0, .ref h), (1, .int (nI cl)), (2, .int m), (3, .int (nI ti)), (4, .int (nI bl))]) rfl ?_
      refine v_iconst X dX2_pressOn_19 (v := nI 0) (by decide) ?_
      refine v_istore X dX2_pressOn_20 (by decide) (lv' := [(6, .int (nI 0)), (5, .int (nI (bbits (fun c => decide (0 < ink c)) 8))), (0, .ref h), (1, .int (nI cl)), (2, .int m), (3, .int (nI ti)), (4, .int (nI bl))]) rfl ?_
      have L22 : ∀ (j22 : Nat) (vc : Nat) (vg : Nat → Nat), (vc ≤ 8 ∧ (∀ j, j < vc → vg j = blurN ink mn cl m bl j) ∧ (∀ j, vc ≤ j → vg j = ink j)) → 8 - vc < j22 → V E Z 22 [(0, .ref h), (1, .int (nI cl)), (2, .int m), (3, .int (nI ti)), (4, .int (nI bl)), (5, .int (nI (bbits (fun c => decide (0 < ink c)) 8))), (6, .int (nI vc))] [] [ob h 2 [.ref hi, .ref hm, .int (nI t), .int (nI dd)], aN E hi 8 vg, aI E hm 8 mn] 0 0 := by
        intro j22
        induction j22 with
        | zero => intro vc vg hI hM; exact absurd hM (Nat.not_lt_zero _)
        | succ j22 ih22 =>
          intro vc vg hI22 hM22
          obtain ⟨hc, hg, hk⟩ := id hI22
          refine v_iload X dX2_pressOn_22 6 rfl ?_
          refine v_bipush X dX2_pressOn_24 (v := nI 8) (by decide) ?_
          refine v_icmpN_ge X dX2_pressOn_26 (tgt := 73) (by decide) (by omega) (by decide) (fun h26 => ?_) (fun h26 => ?_)
          · refine V.arN 1 rfl (g' := blurN ink mn cl m bl) (fun j hj => hg j (by omega)) (ws' := [ob h 2 [.ref hi, .ref hm, .int (nI t), .int (nI dd)], aN E hi 8 (blurN ink mn cl m bl), aI E hm 8 mn]) rfl ?_
            refine v_iload X dX2_pressOn_73 5 rfl ?_
            refine v_aload_n X dX2_pressOn_75 rfl 0 rfl ?_
            refine v_iconst X dX2_pressOn_76 (v := nI 0) (by decide) ?_
            refine v_roI1 X (rn_V X k_X2_binding ml_X2_29 dX2_pressOn_77 (c_X2_binding l E h hi hm t dd (blurN ink mn cl m bl) 0 (blurN_le hink) (by omega)) rfl 0 rfl rfl (by decide) (by decide) (by omega) (by omega) (Nat.le_of_ble_eq_true rfl)) [0, 1] rfl rfl ?_
            refine v_iconst X dX2_pressOn_80 (v := (-1)) (by decide) ?_
            refine v_ixor X dX2_pressOn_81 ?_
            refine v_iand X dX2_pressOn_82 ?_
            refine v_eqi (x' := nI (ndf (bbits (fun c => decide (0 < ink c)) 8) (bbits (fun c => decide (0 < (blurN ink mn cl m bl) c)) 8))) (nI_andn _ _) ?_
            refine v_istore X dX2_pressOn_83 (by decide) (lv' := [(6, .int (nI (ndf (bbits (fun c => decide (0 < ink c)) 8) (bbits (fun c => decide (0 < (blurN ink mn cl m bl) c)) 8)))), (0, .ref h), (1, .int (nI cl)), (2, .int m), (3, .int (nI ti)), (4, .int (nI bl)), (5, .int (nI (bbits (fun c => decide (0 < ink c)) 8)))]) rfl ?_
            refine v_aload_n X dX2_pressOn_85 rfl 1 rfl ?_
            refine v_get X kcX2 fl_X2_15 dX2_pressOn_86 0 rfl rfl ?_
            refine v_iload_n X dX2_pressOn_89 rfl 2 rfl ?_
            refine v_iload_n X dX2_pressOn_90 rfl 3 rfl ?_
            refine v_iast X dX2_pressOn_91 2 rfl (by omega) (by decide) (ws' := [ob h 2 [.ref hi, .ref hm, .int (nI t), .int (nI dd)], aN E hi 8 (blurN ink mn cl m bl), aI E hm 8 (upd mn cl m)]) rfl ?_
            refine v_aload_n X dX2_pressOn_92 rfl 1 rfl ?_
            refine v_get X kcX2 fl_X2_9 dX2_pressOn_93 0 rfl rfl ?_
            refine v_iload_n X dX2_pressOn_96 rfl 2 rfl ?_
            refine v_iload_n X dX2_pressOn_97 rfl 4 rfl ?_
            refine v_iast X dX2_pressOn_98 1 rfl (by omega) (by decide) (ws' := [ob h 2 [.ref hi, .ref hm, .int (nI t), .int (nI dd)], aN E hi 8 (upN (blurN ink mn cl m bl) cl ti), aI E hm 8 (upd mn cl m)]) (by rw [upd_nI]; rfl) ?_
            refine v_iload X dX2_pressOn_99 0 rfl ?_
            exact v_iret X Y dX2_pressOn_101 (wrI_of rfl (rfl)) (by omega) (by omega)
          · refine v_iload X dX2_pressOn_29 6 rfl ?_
            refine v_iload_n X dX2_pressOn_31 rfl 1 rfl ?_
            refine v_icmpN_eq X dX2_pressOn_32 (tgt := 67) (by decide) (by omega) (by omega) (fun h32 => ?_) (fun h32 => ?_)
            · refine v_iinc X dX2_pressOn_67 6 rfl (v := nI (vc + 1)) (nI_inc vc) (by decide) (lv' := [(6, .int (nI (vc + 1))), (0, .ref h), (1, .int (nI cl)), (2, .int m), (3, .int (nI ti)), (4, .int (nI bl)), (5, .int (nI (bbits (fun c => decide (0 < ink c)) 8)))]) rfl ?_
              refine v_goto X dX2_pressOn_70 (tgt := 22) (by decide) ?_
              refine V.lvs [1, 2, 3, 4, 5, 6, 0] rfl ?_
              exact ih22 (vc + 1) vg (⟨by omega, by first | exact fillN hg (blurN_yes h32 h43).symm | exact fillK hg ((hk _ (Nat.le_refl _)).trans (blurN_no (fun q => q.1 h32)).symm) | exact fillK hg ((hk _ (Nat.le_refl _)).trans (blurN_no (fun q => h43 q.2)).symm), by first | exact keepN hk _ | exact keepK hk⟩) (by omega)
            · refine v_aload_n X dX2_pressOn_35 rfl 0 rfl ?_
              refine v_get X kcX2 fl_X2_15 dX2_pressOn_36 0 rfl rfl ?_
              refine v_iload X dX2_pressOn_39 6 rfl ?_
              refine v_iald X dX2_pressOn_41 2 rfl (by omega) (by decide) ?_
              refine v_iload_n X dX2_pressOn_42 rfl 2 rfl ?_
              refine v_icmp_ne X dX2_pressOn_43 (tgt := 67) (by decide) (fun h43 => ?_) (fun h43 => ?_)
              · refine v_iinc X dX2_pressOn_67 6 rfl (v := nI (vc + 1)) (nI_inc vc) (by decide) (lv' := [(6, .int (nI (vc + 1))), (0, .ref h), (1, .int (nI cl)), (2, .int m), (3, .int (nI ti)), (4, .int (nI bl)), (5, .int (nI (bbits (fun c => decide (0 < ink c)) 8)))]) rfl ?_
                refine v_goto X dX2_pressOn_70 (tgt := 22) (by decide) ?_
                refine V.lvs [1, 2, 3, 4, 5, 6, 0] rfl ?_
                exact ih22 (vc + 1) vg (⟨by omega, by first | exact fillN hg (blurN_yes h32 h43).symm | exact fillK hg ((hk _ (Nat.le_refl _)).trans (blurN_no (fun q => q.1 h32)).symm) | exact fillK hg ((hk _ (Nat.le_refl _)).trans (blurN_no (fun q => h43 q.2)).symm), by first | exact keepN hk _ | exact keepK hk⟩) (by omega)
              · refine v_aload_n X dX2_pressOn_46 rfl 0 rfl ?_
                refine v_get X kcX2 fl_X2_9 dX2_pressOn_47 0 rfl rfl ?_
                refine v_iload X dX2_pressOn_50 6 rfl ?_
                refine v_iconst X dX2_pressOn_52 (v := nI 0) (by decide) ?_
                refine v_aload_n X dX2_pressOn_53 rfl 0 rfl ?_
                refine v_get X kcX2 fl_X2_9 dX2_pressOn_54 0 rfl rfl ?_
                refine v_iload X dX2_pressOn_57 6 rfl ?_
                refine v_iald X dX2_pressOn_59 1 rfl (by omega) (by decide) ?_
                refine v_eqi (x' := nI (ink vc)) (congrArg nI (hk _ (Nat.le_refl _))) ?_
                refine v_iload X dX2_pressOn_60 4 rfl ?_
                refine v_isub X dX2_pressOn_62 ?_
                refine v_eqi (x' := (nI (ink vc)) - (nI bl)) rfl ?_
                refine v_max X ml_X2_33 mw_max1 mw_max2 mw_max3 dX2_pressOn_63 (by decide) (by omega) (by omega) (Nat.le_of_ble_eq_true rfl) ?_
                refine v_eqi (x' := nI (ink vc - bl)) (max0_sub (Nat.lt_of_le_of_lt (hink _) (by decide)) (by omega)) ?_
                refine v_iast X dX2_pressOn_66 1 rfl (by omega) (by decide) (ws' := [ob h 2 [.ref hi, .ref hm, .int (nI t), .int (nI dd)], aN E hi 8 (upN vg vc (ink vc - bl)), aI E hm 8 mn]) (by rw [upd_nI]; rfl) ?_
                refine v_iinc X dX2_pressOn_67 6 rfl (v := nI (vc + 1)) (nI_inc vc) (by decide) (lv' := [(6, .int (nI (vc + 1))), (0, .ref h), (1, .int (nI cl)), (2, .int m), (3, .int (nI ti)), (4, .int (nI bl)), (5, .int (nI (bbits (fun c => decide (0 < ink c)) 8)))]) rfl ?_
                refine v_goto X dX2_pressOn_70 (tgt := 22) (by decide) ?_
                refine V.lvs [1, 2, 3, 4, 5, 6, 0] rfl ?_
                exact ih22 (vc + 1) (upN vg vc (ink vc - bl)) (⟨by omega, by first | exact fillN hg (blurN_yes h32 h43).symm | exact fillK hg ((hk _ (Nat.le_refl _)).trans (blurN_no (fun q => q.1 h32)).symm) | exact fillK hg ((hk _ (Nat.le_refl _)).trans (blurN_no (fun q => h43 q.2)).symm), by first | exact keepN hk _ | exact keepK hk⟩) (by omega)
      refine V.lvs [2, 3, 4, 5, 6, 1, 0] rfl ?_
      exact L22 _ 0 ink (⟨by omega, fun j hj => absurd hj (Nat.not_lt_zero j), fun j hj => rfl⟩) (Nat.lt_succ_self _)
    · exfalso; omega
set_option maxRecDepth 100000 in
set_option maxHeartbeats 4000000 in
theorem c_X2_passDay (l : Launch) (E : Et) (h : Nat) (hi : Nat) (hm : Nat) (t : Nat) (dd : Nat) (ink : Nat → Nat) (mn : Nat → Int32) (hink : ∀ c, ink c ≤ 40) : Ct l E yX2_passDay cX2_passDay 3 (some .int) 2 0 0 [.ref h] [ob h 2 [.ref hi, .ref hm, .int (nI t), .int (nI dd)], aN E hi 8 ink, aI E hm 8 mn] (wrI [ob h 2 [.ref hi, .ref hm, .int (nI t), .int (nI (dd + 1))], aN E hi 8 (fun c => ink c - 1), aI E hm 8 mn] (nI (lostB ink (fun c => ink c - 1)))) := by
  refine Ct.intro (by decide +kernel) (Nat.le_of_ble_eq_true rfl) (lv := [(0, .ref h)]) rfl ?_
  intro Z X Y
  refine v_aload_n X dX2_passDay_0 rfl 0 rfl ?_
  refine v_iconst X dX2_passDay_1 (v := nI 0) (by decide) ?_
  refine v_roI1 X (rn_V X k_X2_binding ml_X2_29 dX2_passDay_2 (c_X2_binding l E h hi hm t dd ink 0 (by first | assumption | omega) (by omega)) rfl 0 rfl rfl (by decide) (by decide) (by omega) (by omega) (Nat.le_of_ble_eq_true rfl)) [0, 1] rfl rfl ?_
  refine v_istore_n X dX2_passDay_5 rfl (by decide) (lv' := [(1, .int (nI (bbits (fun c => decide (0 < ink c)) 8))), (0, .ref h)]) rfl ?_
  refine v_iconst X dX2_passDay_6 (v := nI 0) (by decide) ?_
  refine v_istore_n X dX2_passDay_7 rfl (by decide) (lv' := [(2, .int (nI 0)), (1, .int (nI (bbits (fun c => decide (0 < ink c)) 8))), (0, .ref h)]) rfl ?_
  have L8 : ∀ (j8 : Nat) (vc : Nat) (vg : Nat → Nat), (vc ≤ 8 ∧ (∀ j, j < vc → vg j = ink j - 1) ∧ (∀ j, vc ≤ j → vg j = ink j)) → 8 - vc < j8 → V E Z 8 [(0, .ref h), (1, .int (nI (bbits (fun c => decide (0 < ink c)) 8))), (2, .int (nI vc))] [] [ob h 2 [.ref hi, .ref hm, .int (nI t), .int (nI dd)], aN E hi 8 vg, aI E hm 8 mn] 0 0 := by
    intro j8
    induction j8 with
    | zero => intro vc vg hI hM; exact absurd hM (Nat.not_lt_zero _)
    | succ j8 ih8 =>
      intro vc vg hI8 hM8
      obtain ⟨hc, hg, hk⟩ := id hI8
      refine v_iload_n X dX2_passDay_8 rfl 2 rfl ?_
      refine v_bipush X dX2_passDay_9 (v := nI 8) (by decide) ?_
      refine v_icmpN_ge X dX2_passDay_11 (tgt := 38) (by decide) (by omega) (by decide) (fun h11 => ?_) (fun h11 => ?_)
      · refine V.arN 1 rfl (g' := fun c => ink c - 1) (fun j hj => hg j (by omega)) (ws' := [ob h 2 [.ref hi, .ref hm, .int (nI t), .int (nI dd)], aN E hi 8 (fun c => ink c - 1), aI E hm 8 mn]) rfl ?_
        refine v_aload_n X dX2_passDay_38 rfl 0 rfl ?_
        refine v_dup X dX2_passDay_39 rfl ?_
        refine v_get X kcX2 fl_X2_22 dX2_passDay_40 0 rfl rfl ?_
        refine v_iconst X dX2_passDay_43 (v := nI 1) (by decide) ?_
        refine v_iadd X dX2_passDay_44 ?_
        refine v_eqi (x' := nI (dd + 1)) (nI_add _ _) ?_
        refine v_put X kcX2 fl_X2_22 dX2_passDay_45 0 rfl (ws' := [ob h 2 [.ref hi, .ref hm, .int (nI t), .int (nI (dd + 1))], aN E hi 8 (fun c => ink c - 1), aI E hm 8 mn]) rfl rfl ?_
        refine v_iload_n X dX2_passDay_48 rfl 1 rfl ?_
        refine v_aload_n X dX2_passDay_49 rfl 0 rfl ?_
        refine v_iconst X dX2_passDay_50 (v := nI 0) (by decide) ?_
        refine v_roI1 X (rn_V X k_X2_binding ml_X2_29 dX2_passDay_51 (c_X2_binding l E h hi hm t (dd + 1) (fun c => ink c - 1) 0 (fun c => Nat.le_trans (Nat.sub_le _ _) (hink c)) (by omega)) rfl 0 rfl rfl (by decide) (by decide) (by omega) (by omega) (Nat.le_of_ble_eq_true rfl)) [0, 1] rfl rfl ?_
        refine v_iconst X dX2_passDay_54 (v := (-1)) (by decide) ?_
        refine v_ixor X dX2_passDay_55 ?_
        refine v_iand X dX2_passDay_56 ?_
        refine v_eqi (x' := nI (ndf (bbits (fun c => decide (0 < ink c)) 8) (bbits (fun c => decide (0 < (fun c => ink c - 1) c)) 8))) (nI_andn _ _) ?_
        exact v_iret X Y dX2_passDay_57 (wrI_of rfl (rfl)) (by omega) (by omega)
      · refine v_aload_n X dX2_passDay_14 rfl 0 rfl ?_
        refine v_get X kcX2 fl_X2_9 dX2_passDay_15 0 rfl rfl ?_
        refine v_iload_n X dX2_passDay_18 rfl 2 rfl ?_
        refine v_iconst X dX2_passDay_19 (v := nI 0) (by decide) ?_
        refine v_aload_n X dX2_passDay_20 rfl 0 rfl ?_
        refine v_get X kcX2 fl_X2_9 dX2_passDay_21 0 rfl rfl ?_
        refine v_iload_n X dX2_passDay_24 rfl 2 rfl ?_
        refine v_iald X dX2_passDay_25 1 rfl (by omega) (by decide) ?_
        refine v_eqi (x' := nI (ink vc)) (congrArg nI (hk _ (Nat.le_refl _))) ?_
        refine v_iconst X dX2_passDay_26 (v := nI 1) (by decide) ?_
        refine v_isub X dX2_passDay_27 ?_
        refine v_eqi (x' := (nI (ink vc)) - (nI 1)) rfl ?_
        refine v_max X ml_X2_33 mw_max1 mw_max2 mw_max3 dX2_passDay_28 (by decide) (by omega) (by omega) (Nat.le_of_ble_eq_true rfl) ?_
        refine v_eqi (x' := nI (ink vc - 1)) (max0_sub (Nat.lt_of_le_of_lt (hink _) (by decide)) (by decide)) ?_
        refine v_iast X dX2_passDay_31 1 rfl (by omega) (by decide) (ws' := [ob h 2 [.ref hi, .ref hm, .int (nI t), .int (nI dd)], aN E hi 8 (upN vg vc (ink vc - 1)), aI E hm 8 mn]) (by rw [upd_nI]; rfl) ?_
        refine v_iinc X dX2_passDay_32 2 rfl (v := nI (vc + 1)) (nI_inc vc) (by decide) (lv' := [(2, .int (nI (vc + 1))), (0, .ref h), (1, .int (nI (bbits (fun c => decide (0 < ink c)) 8)))]) rfl ?_
        refine v_goto X dX2_passDay_35 (tgt := 8) (by decide) ?_
        refine V.lvs [1, 2, 0] rfl ?_
        exact ih8 (vc + 1) (upN vg vc (ink vc - 1)) (⟨by omega, fillN (f := fun c => ink c - 1) hg rfl, keepN hk _⟩) (by omega)
  refine V.lvs [2, 1, 0] rfl ?_
  exact L8 _ 0 ink (⟨by omega, fun j hj => absurd hj (Nat.not_lt_zero j), fun j hj => rfl⟩) (Nat.lt_succ_self _)
set_option maxRecDepth 100000 in
set_option maxHeartbeats 4000000 in
theorem c_X2_passRainyDay (l : Launch) (E : Et) (h : Nat) (hi : Nat) (hm : Nat) (t : Nat) (dd : Nat) (ink : Nat → Nat) (mn : Nat → Int32) (rain : Nat) (sd : Nat) (hink : ∀ c, ink c ≤ 40) (hr : rain ≤ 100) (hsd : sd < 65537) : Ct l E yX2_passRainyDay cX2_passRainyDay 5 (some .int) 3 0 0 [.ref h, .int (nI rain), .int (nI sd)] [ob h 2 [.ref hi, .ref hm, .int (nI t), .int (nI dd)], aN E hi 8 ink, aI E hm 8 mn] (wrI [ob h 2 [.ref hi, .ref hm, .int (nI t), .int (nI (dd + 1))], aN E hi 8 ((rainQ rain (ink, sd)).1), aI E hm 8 mn] (nI ((rainQ rain (ink, sd)).2))) := by
  refine Ct.intro (by decide +kernel) (Nat.le_of_ble_eq_true rfl) (lv := [(0, .ref h), (1, .int (nI rain)), (2, .int (nI sd))]) rfl ?_
  intro Z X Y
  refine v_aload_n X dX2_passRainyDay_0 rfl 0 rfl ?_
  refine v_wrI1 X (rn_V X k_X2_passDay ml_X2_39 dX2_passRainyDay_1 (c_X2_passDay l E h hi hm t dd ink mn (by first | assumption | omega)) rfl 0 rfl rfl (by decide) (by decide) (by omega) (by omega) (Nat.le_of_ble_eq_true rfl)) [0, 1, 2] rfl rfl (ws' := [ob h 2 [.ref hi, .ref hm, .int (nI t), .int (nI (dd + 1))], aN E hi 8 (fun c => ink c - 1), aI E hm 8 mn]) rfl rfl ?_
  refine v_pop X dX2_passRainyDay_4 rfl ?_
  refine v_iload_n X dX2_passRainyDay_5 rfl 2 rfl ?_
  refine v_istore_n X dX2_passRainyDay_6 rfl (by decide) (lv' := [(3, .int (nI sd)), (0, .ref h), (1, .int (nI rain)), (2, .int (nI sd))]) rfl ?_
  refine v_iconst X dX2_passRainyDay_7 (v := nI 0) (by decide) ?_
  refine v_istore X dX2_passRainyDay_8 (by decide) (lv' := [(4, .int (nI 0)), (3, .int (nI sd)), (0, .ref h), (1, .int (nI rain)), (2, .int (nI sd))]) rfl ?_
  have L10 : ∀ (j10 : Nat) (vc : Nat) (vg : Nat → Nat) (vs : Nat), (vc ≤ 8 ∧ vg = (rainF rain vc (fun c => ink c - 1, sd)).1 ∧ vs = (rainF rain vc (fun c => ink c - 1, sd)).2) → 8 - vc < j10 → V E Z 10 [(0, .ref h), (1, .int (nI rain)), (2, .int (nI sd)), (3, .int (nI vs)), (4, .int (nI vc))] [] [ob h 2 [.ref hi, .ref hm, .int (nI t), .int (nI (dd + 1))], aN E hi 8 vg, aI E hm 8 mn] 0 0 := by
    intro j10
    induction j10 with
    | zero => intro vc vg vs hI hM; exact absurd hM (Nat.not_lt_zero _)
    | succ j10 ih10 =>
      intro vc vg vs hI10 hM10
      obtain ⟨hc, hg, hs⟩ := id hI10
      refine v_iload X dX2_passRainyDay_10 4 rfl ?_
      refine v_bipush X dX2_passRainyDay_12 (v := nI 8) (by decide) ?_
      refine v_icmpN_ge X dX2_passRainyDay_14 (tgt := 60) (by decide) (by omega) (by decide) (fun h14 => ?_) (fun h14 => ?_)
      · refine v_iload_n X dX2_passRainyDay_60 rfl 3 rfl ?_
        exact v_iret X Y dX2_passRainyDay_61 (wrI_of (by (obtain rfl : vc = 8 := (by omega)); rw [hg, rainD_eq]) (by (obtain rfl : vc = 8 := (by omega)); rw [hs, rainD_eq])) (by omega) (by omega)
      · refine v_aload_n X dX2_passRainyDay_17 rfl 0 rfl ?_
        refine v_get X kcX2 fl_X2_9 dX2_passRainyDay_18 0 rfl rfl ?_
        refine v_iload X dX2_passRainyDay_21 4 rfl ?_
        refine v_iald X dX2_passRainyDay_23 1 rfl (by omega) (by decide) ?_
        refine v_ifN_le X dX2_passRainyDay_24 (tgt := 54) (by decide) (by rw [hg]; exact Nat.lt_of_le_of_lt (rainF_le (fun c => Nat.le_trans (Nat.sub_le _ _) (hink c)) _ _) (by decide)) (fun h24 => ?_) (fun h24 => ?_)
        · refine v_iinc X dX2_passRainyDay_54 4 rfl (v := nI (vc + 1)) (nI_inc vc) (by decide) (lv' := [(4, .int (nI (vc + 1))), (0, .ref h), (1, .int (nI rain)), (2, .int (nI sd)), (3, .int (nI vs))]) rfl ?_
          refine v_goto X dX2_passRainyDay_57 (tgt := 10) (by decide) ?_
          refine V.lvs [1, 2, 3, 4, 0] rfl ?_
          exact ih10 (vc + 1) vg vs (by subst hg; subst hs; first | exact ⟨by omega, by rw [rainF_no h24], by rw [rainF_no h24]⟩ | exact ⟨by omega, by rw [rainF_wet h24 h43], by rw [rainF_wet h24 h43]; rfl⟩ | exact ⟨by omega, by rw [rainF_dry h24 h43], by rw [rainF_dry h24 h43]; rfl⟩) (by omega)
        · have hs9 : vs < 65537 := by rw [hs]; exact rainF_lt hsd vc
          refine v_bipush X dX2_passRainyDay_27 (v := nI 75) (by decide) ?_
          refine v_iload_n X dX2_passRainyDay_29 rfl 3 rfl ?_
          refine v_imul X dX2_passRainyDay_30 ?_
          refine v_eqi (x' := nI (75 * vs)) (pk_mul _ _) ?_
          refine v_bipush X dX2_passRainyDay_31 (v := nI 74) (by decide) ?_
          refine v_iadd X dX2_passRainyDay_33 ?_
          refine v_eqi (x' := nI ((75 * vs) + 74)) (nI_add _ _) ?_
          refine v_ldc X dX2_passRainyDay_34 cs_X2_43 ?_
          refine v_eqi (x' := nI 65537) rfl ?_
          refine v_irem X dX2_passRainyDay_36 (by decide) ?_
          refine v_eqi (x' := nI (((75 * vs) + 74) % 65537)) (pk_rem (by omega) (by omega) (by omega)) ?_
          refine v_istore_n X dX2_passRainyDay_37 rfl (by decide) (lv' := [(3, .int (nI (((75 * vs) + 74) % 65537))), (0, .ref h), (1, .int (nI rain)), (2, .int (nI sd)), (4, .int (nI vc))]) rfl ?_
          refine v_iload_n X dX2_passRainyDay_38 rfl 0 rfl ?_
          refine v_bipush X dX2_passRainyDay_39 (v := nI 100) (by decide) ?_
          refine v_irem X dX2_passRainyDay_41 (by decide) ?_
          refine v_eqi (x' := nI ((((75 * vs) + 74) % 65537) % 100)) (pk_rem (by omega) (by omega) (by omega)) ?_
          refine v_iload_n X dX2_passRainyDay_42 rfl 2 rfl ?_
          refine v_icmpN_ge X dX2_passRainyDay_43 (tgt := 54) (by decide) (by omega) (by omega) (fun h43 => ?_) (fun h43 => ?_)
          · refine v_iinc X dX2_passRainyDay_54 4 rfl (v := nI (vc + 1)) (nI_inc vc) (by decide) (lv' := [(4, .int (nI (vc + 1))), (3, .int (nI (((75 * vs) + 74) % 65537))), (0, .ref h), (1, .int (nI rain)), (2, .int (nI sd))]) rfl ?_
            refine v_goto X dX2_passRainyDay_57 (tgt := 10) (by decide) ?_
            refine V.lvs [2, 3, 4, 1, 0] rfl ?_
            exact ih10 (vc + 1) vg (((75 * vs) + 74) % 65537) (by subst hg; subst hs; first | exact ⟨by omega, by rw [rainF_no h24], by rw [rainF_no h24]⟩ | exact ⟨by omega, by rw [rainF_wet h24 h43], by rw [rainF_wet h24 h43]; rfl⟩ | exact ⟨by omega, by rw [rainF_dry h24 h43], by rw [rainF_dry h24 h43]; rfl⟩) (by omega)
          · refine v_aload_n X dX2_passRainyDay_46 rfl 1 rfl ?_
            refine v_get X kcX2 fl_X2_9 dX2_passRainyDay_47 0 rfl rfl ?_
            refine v_iload X dX2_passRainyDay_50 4 rfl ?_
            refine v_iconst X dX2_passRainyDay_52 (v := nI 0) (by decide) ?_
            refine v_iast X dX2_passRainyDay_53 1 rfl (by omega) (by decide) (ws' := [ob h 2 [.ref hi, .ref hm, .int (nI t), .int (nI (dd + 1))], aN E hi 8 (upN vg vc 0), aI E hm 8 mn]) (by rw [upd_nI]; rfl) ?_
            refine v_iinc X dX2_passRainyDay_54 4 rfl (v := nI (vc + 1)) (nI_inc vc) (by decide) (lv' := [(4, .int (nI (vc + 1))), (3, .int (nI (((75 * vs) + 74) % 65537))), (0, .ref h), (1, .int (nI rain)), (2, .int (nI sd))]) rfl ?_
            refine v_goto X dX2_passRainyDay_57 (tgt := 10) (by decide) ?_
            refine V.lvs [2, 3, 4, 1, 0] rfl ?_
            exact ih10 (vc + 1) (upN vg vc 0) (((75 * vs) + 74) % 65537) (by subst hg; subst hs; first | exact ⟨by omega, by rw [rainF_no h24], by rw [rainF_no h24]⟩ | exact ⟨by omega, by rw [rainF_wet h24 h43], by rw [rainF_wet h24 h43]; rfl⟩ | exact ⟨by omega, by rw [rainF_dry h24 h43], by rw [rainF_dry h24 h43]; rfl⟩) (by omega)
  refine V.lvs [2, 3, 4, 1, 0] rfl ?_
  exact L10 _ 0 (fun c => ink c - 1) sd (⟨by omega, rfl, rfl⟩) (Nat.lt_succ_self _)
