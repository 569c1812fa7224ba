set_option maxRecDepth 100000 in
set_option maxHeartbeats 4000000 in
theorem c_X6_freeBy (l : Launch) (E : Et) (x : Nat) (xa : Nat → Nat) (g : Nat) (tr : Nat) (fl : Nat) (pl : Int32) (cy : Nat → Nat) (ca : Nat → Nat) (Fs : Nat → Nat) (Ft : Nat → Nat) (hi : Nat) (hm : Nat) (t : Nat) (dd : Nat) (ink : Nat → Nat) (mn : Nat → Int32) (ri : Nat) (rm : Nat) (t4 : Nat) (d4 : Nat) (ink4 : Nat → Nat) (mn4 : Nat → Int32) (m : Int32) (sd : Int32) (n : Int32) (hd : cy 4 ≤ 6) (hcl : cy 5 ≤ 8) (hmen : cy 3 ≤ 4) (ht : t < 256) (hink : ∀ c, ink c ≤ 40) (hr : cy 2 ≤ 100) : Ct l E yX6_freeBy cX6_freeBy 6 (some .int) 6 0 0 [.ref x, .int m, .int sd, .int n] [ob x 6 [.ref (xa 0), .ref g, .ref (xa 2), .ref (xa 3), .ref (xa 4), .ref (xa 5), .ref (xa 6), .ref (xa 7), .int (nI tr), .int (nI fl), .int pl], ob g 0 [.int (nI (cy 0)), .int (nI (cy 1)), .int (nI (cy 2)), .int (nI (cy 3)), .int (nI (cy 4)), .int (nI (cy 5)), .int (nI (cy 6)), .int (nI (cy 7)), .ref (ca 0), .ref (ca 1), .ref (ca 2), .ref (ca 3), .ref (ca 4), .ref (ca 5), .ref (ca 6), .ref (ca 7), .ref (ca 8), .ref (ca 9), .ref (ca 10), .ref (ca 11)], aM E (ca 5) 8 Fs, aM E (ca 6) 8 Ft, ob (xa 3) 2 [.ref hi, .ref hm, .int (nI t), .int (nI dd)], aN E hi 8 ink, aI E hm 8 mn, ob (xa 4) 2 [.ref ri, .ref rm, .int (nI t4), .int (nI d4)], aN E ri 8 ink4, aI E rm 8 mn4] (wrI [ob x 6 [.ref (xa 0), .ref g, .ref (xa 2), .ref (xa 3), .ref (xa 4), .ref (xa 5), .ref (xa 6), .ref (xa 7), .int (nI (if okM m (cy 3) then (if (0 ≤ sd ∧ sd < nI 65537) ∧ (0 ≤ n ∧ n ≤ nI 60) then 0 else 2) else 1)), .int (nI fl), .int pl], ob g 0 [.int (nI (cy 0)), .int (nI (cy 1)), .int (nI (cy 2)), .int (nI (cy 3)), .int (nI (cy 4)), .int (nI (cy 5)), .int (nI (cy 6)), .int (nI (cy 7)), .ref (ca 0), .ref (ca 1), .ref (ca 2), .ref (ca 3), .ref (ca 4), .ref (ca 5), .ref (ca 6), .ref (ca 7), .ref (ca 8), .ref (ca 9), .ref (ca 10), .ref (ca 11)], aM E (ca 5) 8 Fs, aM E (ca 6) 8 Ft, ob (xa 3) 2 [.ref hi, .ref hm, .int (nI t), .int (nI dd)], aN E hi 8 ink, aI E hm 8 mn, ob (xa 4) 2 [.ref ri, .ref rm, .int (nI (if okM m (cy 3) ∧ (0 ≤ sd ∧ sd < nI 65537) ∧ (0 ≤ n ∧ n ≤ nI 60) then t else t4)), .int (nI (if okM m (cy 3) ∧ (0 ≤ sd ∧ sd < nI 65537) ∧ (0 ≤ n ∧ n ≤ nI 60) then dd + (fst_ (frP cy Fs Ft ink mn t (tn sd) m) (tn n + 1) 0).getD (tn n + 1) else d4))], aN E ri 8 (if okM m (cy 3) ∧ (0 ≤ sd ∧ sd < nI 65537) ∧ (0 ≤ n ∧ n ≤ nI 60) then (rainIt (cy 2) ((fst_ (frP cy Fs Ft ink mn t (tn sd) m) (tn n + 1) 0).getD (tn n + 1)) (ink, tn sd)).1 else ink4), aI E rm 8 (if okM m (cy 3) ∧ (0 ≤ sd ∧ sd < nI 65537) ∧ (0 ≤ n ∧ n ≤ nI 60) then mn else mn4)] (if okM m (cy 3) then (if (0 ≤ sd ∧ sd < nI 65537) ∧ (0 ≤ n ∧ n ≤ nI 60) then optI (fst_ (frP cy Fs Ft ink mn t (tn sd) m) (tn n + 1) 0) else (-1)) else (-1))) := by
  refine Ct.intro (by decide +kernel) (Nat.le_of_ble_eq_true rfl) (lv := [(0, .ref x), (1, .int m), (2, .int sd), (3, .int n)]) rfl ?_
  intro Z X Y
  refine v_aload_n X dX6_freeBy_0 rfl 0 rfl ?_
  refine v_iload_n X dX6_freeBy_1 rfl 1 rfl ?_
  refine v_roI1 X (rn_V X k_X6_isMan ml_X6_117 dX6_freeBy_2 (c_X6_isMan l E x xa g tr fl pl cy ca m ) rfl 0 rfl rfl (by decide) (by decide) (by omega) (by omega) (Nat.le_of_ble_eq_true rfl)) [0, 1] rfl rfl ?_
  refine v_ifB_ne X dX6_freeBy_5 (tgt := 14) (by decide) (fun h5 => ?_) (fun h5 => ?_)
  · refine v_iload_n X dX6_freeBy_14 rfl 2 rfl ?_
    refine v_roI1 X (rn_S X k_X6_isSeed ml_X6_256 dX6_freeBy_15 (c_X6_isSeed l E sd ) rfl (by decide) (by decide) (by omega) (by omega) (Nat.le_of_ble_eq_true rfl)) [] rfl rfl ?_
    refine v_ifB_eq X dX6_freeBy_18 (tgt := 28) (by decide) (fun h18 => ?_) (fun h18 => ?_)
    · refine v_aload_n X dX6_freeBy_28 rfl 0 rfl ?_
      refine v_iconst X dX6_freeBy_29 (v := nI 2) (by decide) ?_
      refine v_wrI1 X (rn_V X k_X6_refused ml_X6_74 dX6_freeBy_30 (c_X6_refused l E x xa g tr fl pl 2 ) rfl 0 rfl rfl (by decide) (by decide) (by omega) (by omega) (Nat.le_of_ble_eq_true rfl)) [0] rfl rfl (ws' := [ob x 6 [.ref (xa 0), .ref g, .ref (xa 2), .ref (xa 3), .ref (xa 4), .ref (xa 5), .ref (xa 6), .ref (xa 7), .int (nI 2), .int (nI fl), .int pl], ob g 0 [.int (nI (cy 0)), .int (nI (cy 1)), .int (nI (cy 2)), .int (nI (cy 3)), .int (nI (cy 4)), .int (nI (cy 5)), .int (nI (cy 6)), .int (nI (cy 7)), .ref (ca 0), .ref (ca 1), .ref (ca 2), .ref (ca 3), .ref (ca 4), .ref (ca 5), .ref (ca 6), .ref (ca 7), .ref (ca 8), .ref (ca 9), .ref (ca 10), .ref (ca 11)], aM E (ca 5) 8 Fs, aM E (ca 6) 8 Ft, ob (xa 3) 2 [.ref hi, .ref hm, .int (nI t), .int (nI dd)], aN E hi 8 ink, aI E hm 8 mn, ob (xa 4) 2 [.ref ri, .ref rm, .int (nI t4), .int (nI d4)], aN E ri 8 ink4, aI E rm 8 mn4]) rfl rfl ?_
      exact v_iret X Y dX6_freeBy_33 (wrI_of (by rw [if_pos (of_decide_eq_true h5), if_neg (fun q => of_decide_eq_false h18 q.1)]; rw [if_neg (fun q => of_decide_eq_false h18 q.2.1), if_neg (fun q => of_decide_eq_false h18 q.2.1), if_neg (fun q => of_decide_eq_false h18 q.2.1), if_neg (fun q => of_decide_eq_false h18 q.2.1)]) (((if_pos (of_decide_eq_true h5)).trans (if_neg (fun q => of_decide_eq_false h18 q.1))).symm)) (by omega) (by omega)
    · obtain ⟨kz, hkz, rfl⟩ := okM_nat (of_decide_eq_true h18) (show 65537 < 2 ^ 31 by decide)
      refine v_iload_n X dX6_freeBy_21 rfl 3 rfl ?_
      refine v_roI1 X (rn_S X k_X6_isAhead ml_X6_192 dX6_freeBy_22 (c_X6_isAhead l E n ) rfl (by decide) (by decide) (by omega) (by omega) (Nat.le_of_ble_eq_true rfl)) [] rfl rfl ?_
      refine v_ifB_ne X dX6_freeBy_25 (tgt := 34) (by decide) (fun h25 => ?_) (fun h25 => ?_)
      · obtain ⟨kn, hkn, rfl⟩ := ahead_nat (of_decide_eq_true h25) (show 60 < 2 ^ 31 by decide)
        refine v_aload_n X dX6_freeBy_34 rfl 0 rfl ?_
        refine v_get X kcX6 fl_X6_33 dX6_freeBy_35 0 rfl rfl ?_
        refine v_aload_n X dX6_freeBy_38 rfl 0 rfl ?_
        refine v_get X kcX6 fl_X6_30 dX6_freeBy_39 0 rfl rfl ?_
        refine v_wrV1 X (rn_VN X k_X2_becomes ml_X6_259 dX6_freeBy_42 (c_X2_becomes l E (xa 4) ri rm t4 d4 ink4 mn4 (xa 3) hi hm t dd ink mn ) rfl 0 rfl rfl (by decide) (by decide) (by omega) (by omega) (Nat.le_of_ble_eq_true rfl)) [7, 8, 9, 4, 5, 6] rfl rfl (ws' := [ob x 6 [.ref (xa 0), .ref g, .ref (xa 2), .ref (xa 3), .ref (xa 4), .ref (xa 5), .ref (xa 6), .ref (xa 7), .int (nI tr), .int (nI fl), .int pl], ob g 0 [.int (nI (cy 0)), .int (nI (cy 1)), .int (nI (cy 2)), .int (nI (cy 3)), .int (nI (cy 4)), .int (nI (cy 5)), .int (nI (cy 6)), .int (nI (cy 7)), .ref (ca 0), .ref (ca 1), .ref (ca 2), .ref (ca 3), .ref (ca 4), .ref (ca 5), .ref (ca 6), .ref (ca 7), .ref (ca 8), .ref (ca 9), .ref (ca 10), .ref (ca 11)], aM E (ca 5) 8 Fs, aM E (ca 6) 8 Ft, ob (xa 3) 2 [.ref hi, .ref hm, .int (nI t), .int (nI dd)], aN E hi 8 ink, aI E hm 8 mn, ob (xa 4) 2 [.ref ri, .ref rm, .int (nI t), .int (nI dd)], aN E ri 8 ink, aI E rm 8 mn]) rfl rfl ?_
        refine v_iload_n X dX6_freeBy_45 rfl 2 rfl ?_
        refine v_istore X dX6_freeBy_46 (by decide) (lv' := [(4, .int (nI kz)), (0, .ref x), (1, .int m), (2, .int (nI kz)), (3, .int (nI kn))]) rfl ?_
        refine v_iconst X dX6_freeBy_48 (v := nI 0) (by decide) ?_
        refine v_istore X dX6_freeBy_49 (by decide) (lv' := [(5, .int (nI 0)), (4, .int (nI kz)), (0, .ref x), (1, .int m), (2, .int (nI kz)), (3, .int (nI kn))]) rfl ?_
        have L51 : ∀ (j51 : Nat) (vi : Nat) (vg : Nat → Nat) (vs : Nat), (vi ≤ kn + 1 ∧ (vg, vs) = rainIt (cy 2) vi (ink, kz) ∧ fst_ (frP cy Fs Ft ink mn t kz m) (kn + 1) 0 = fst_ (frP cy Fs Ft ink mn t kz m) (kn + 1 - vi) vi) → kn + 1 - vi < j51 → V E Z 51 [(0, .ref x), (1, .int m), (2, .int (nI kz)), (3, .int (nI kn)), (4, .int (nI vs)), (5, .int (nI vi))] [] [ob x 6 [.ref (xa 0), .ref g, .ref (xa 2), .ref (xa 3), .ref (xa 4), .ref (xa 5), .ref (xa 6), .ref (xa 7), .int (nI tr), .int (nI fl), .int pl], ob g 0 [.int (nI (cy 0)), .int (nI (cy 1)), .int (nI (cy 2)), .int (nI (cy 3)), .int (nI (cy 4)), .int (nI (cy 5)), .int (nI (cy 6)), .int (nI (cy 7)), .ref (ca 0), .ref (ca 1), .ref (ca 2), .ref (ca 3), .ref (ca 4), .ref (ca 5), .ref (ca 6), .ref (ca 7), .ref (ca 8), .ref (ca 9), .ref (ca 10), .ref (ca 11)], aM E (ca 5) 8 Fs, aM E (ca 6) 8 Ft, ob (xa 3) 2 [.ref hi, .ref hm, .int (nI t), .int (nI dd)], aN E hi 8 ink, aI E hm 8 mn, ob (xa 4) 2 [.ref ri, .ref rm, .int (nI t), .int (nI (dd + vi))], aN E ri 8 vg, aI E rm 8 mn] 0 0 := by
          intro j51
          induction j51 with
          | zero => intro vi vg vs hI hM; exact absurd hM (Nat.not_lt_zero _)
          | succ j51 ih51 =>
            intro vi vg vs hI51 hM51
            obtain ⟨hc, hb, hq⟩ := id hI51
            refine v_iload X dX6_freeBy_51 5 rfl ?_
            refine v_iload_n X dX6_freeBy_53 rfl 3 rfl ?_
            refine v_icmpN_gt X dX6_freeBy_54 (tgt := 114) (by decide) (by omega) (by omega) (fun h54 => ?_) (fun h54 => ?_)
            · refine v_aload_n X dX6_freeBy_114 rfl 0 rfl ?_
              refine v_bipush X dX6_freeBy_115 (v := (-2)) (by decide) ?_
              refine v_wrI1 X (rn_V X k_X6_answered ml_X6_92 dX6_freeBy_117 (c_X6_answered l E x xa g tr fl pl (-2) ) rfl 0 rfl rfl (by decide) (by decide) (by omega) (by omega) (Nat.le_of_ble_eq_true rfl)) [0] rfl rfl (ws' := [ob x 6 [.ref (xa 0), .ref g, .ref (xa 2), .ref (xa 3), .ref (xa 4), .ref (xa 5), .ref (xa 6), .ref (xa 7), .int (nI 0), .int (nI fl), .int pl], ob g 0 [.int (nI (cy 0)), .int (nI (cy 1)), .int (nI (cy 2)), .int (nI (cy 3)), .int (nI (cy 4)), .int (nI (cy 5)), .int (nI (cy 6)), .int (nI (cy 7)), .ref (ca 0), .ref (ca 1), .ref (ca 2), .ref (ca 3), .ref (ca 4), .ref (ca 5), .ref (ca 6), .ref (ca 7), .ref (ca 8), .ref (ca 9), .ref (ca 10), .ref (ca 11)], aM E (ca 5) 8 Fs, aM E (ca 6) 8 Ft, ob (xa 3) 2 [.ref hi, .ref hm, .int (nI t), .int (nI dd)], aN E hi 8 ink, aI E hm 8 mn, ob (xa 4) 2 [.ref ri, .ref rm, .int (nI t), .int (nI (dd + vi))], aN E ri 8 vg, aI E rm 8 mn]) rfl rfl ?_
              exact v_iret X Y dX6_freeBy_120 (wrI_of (by rw [if_pos (of_decide_eq_true h5), if_pos ⟨of_decide_eq_true h18, of_decide_eq_true h25⟩]; rw [if_pos ⟨of_decide_eq_true h5, of_decide_eq_true h18, of_decide_eq_true h25⟩, if_pos ⟨of_decide_eq_true h5, of_decide_eq_true h18, of_decide_eq_true h25⟩, if_pos ⟨of_decide_eq_true h5, of_decide_eq_true h18, of_decide_eq_true h25⟩, if_pos ⟨of_decide_eq_true h5, of_decide_eq_true h18, of_decide_eq_true h25⟩, tn_n (show kn < 2 ^ 31 by omega), tn_n (show kz < 2 ^ 31 by omega), hq, show kn + 1 - vi = 0 by omega, fst_, Option.getD, show kn + 1 = vi by omega, ← hb]) (by rw [if_pos (of_decide_eq_true h5), if_pos ⟨of_decide_eq_true h18, of_decide_eq_true h25⟩, tn_n (show kn < 2 ^ 31 by omega), tn_n (show kz < 2 ^ 31 by omega), hq, show kn + 1 - vi = 0 by omega, fst_]; rfl)) (by omega) (by omega)
            · have hvg : ∀ c, vg c ≤ 40 := by (have e9 : vg = _ := congrArg Prod.fst hb); rw [e9]; exact rainIt_le hink vi
              have hvs : vs < 65537 := by (have e9 : vs = _ := congrArg Prod.snd hb); rw [e9]; exact rainIt_lt (x := (ink, kz)) hkz vi
              refine v_aload_n X dX6_freeBy_57 rfl 0 rfl ?_
              refine v_aload_n X dX6_freeBy_58 rfl 0 rfl ?_
              refine v_get X kcX6 fl_X6_33 dX6_freeBy_59 0 rfl rfl ?_
              refine v_iconst X dX6_freeBy_62 (v := nI 0) (by decide) ?_
              refine v_roI1 X (rn_VN X k_X2_binding ml_X6_182 dX6_freeBy_63 (c_X2_binding l E (xa 4) ri rm t (dd + vi) vg 0 (hvg) (by omega)) rfl 0 rfl rfl (by decide) (by decide) (by omega) (by omega) (Nat.le_of_ble_eq_true rfl)) [7, 8] rfl rfl ?_
              refine v_aload_n X dX6_freeBy_66 rfl 0 rfl ?_
              refine v_get X kcX6 fl_X6_33 dX6_freeBy_67 0 rfl rfl ?_
              refine v_iload_n X dX6_freeBy_70 rfl 1 rfl ?_
              refine v_roI1 X (rn_VN X k_X2_pressedOn ml_X6_120 dX6_freeBy_71 (c_X2_pressedOn l E (xa 4) ri rm t (dd + vi) mn m ) rfl 0 rfl rfl (by decide) (by decide) (by omega) (by omega) (Nat.le_of_ble_eq_true rfl)) [7, 9] rfl rfl ?_
              refine v_iand X dX6_freeBy_74 ?_
              refine v_eqi (x' := nI ((bbits (fun c => decide (0 < vg c)) 8) &&& (bbits (fun c => decide (mn c = m)) 8))) (fa_and _ _) ?_
              refine v_roL1 X (rn_V X k_X6_setsUnder ml_X6_133 dX6_freeBy_75 (c_X6_setsUnder l E x xa g tr fl pl cy ca Fs Ft hi hm t dd ink mn ((bbits (fun c => decide (0 < vg c)) 8) &&& (bbits (fun c => decide (mn c = m)) 8)) (by first | assumption | omega) (by first | assumption | omega) (by first | assumption | omega) (Nat.lt_trans (bdN_lt vg mn m 0) (by decide))) rfl 0 rfl rfl (by decide) (by decide) (by omega) (by omega) (Nat.le_of_ble_eq_true rfl)) [0, 1, 2, 3, 4, 5, 6] rfl rfl ?_
              refine v_lconst X dX6_freeBy_78 (v := lN 0) (by decide) ?_
              refine v_lcmp X dX6_freeBy_79 ?_
              refine v_ifLN_eq X dX6_freeBy_80 (tgt := 90) (by decide) (kpN_lt hd _ _ _ _) (by decide) (fun h80 => ?_) (fun h80 => ?_)
              · refine v_aload_n X dX6_freeBy_90 rfl 0 rfl ?_
                refine v_get X kcX6 fl_X6_33 dX6_freeBy_91 0 rfl rfl ?_
                refine v_aload_n X dX6_freeBy_94 rfl 0 rfl ?_
                refine v_get X kcX6 fl_X6_19 dX6_freeBy_95 0 rfl rfl ?_
                refine v_getN X kcX0 fl_X6_246 dX6_freeBy_98 1 rfl rfl ?_
                refine v_iload X dX6_freeBy_101 4 rfl ?_
                refine v_wrI1 X (rn_VN X k_X2_passRainyDay ml_X6_263 dX6_freeBy_103 (c_X2_passRainyDay l E (xa 4) ri rm t (dd + vi) vg mn (cy 2) vs (hvg) (by first | assumption | omega) (hvs)) rfl 0 rfl rfl (by decide) (by decide) (by omega) (by omega) (Nat.le_of_ble_eq_true rfl)) [7, 8, 9] rfl rfl (ws' := [ob x 6 [.ref (xa 0), .ref g, .ref (xa 2), .ref (xa 3), .ref (xa 4), .ref (xa 5), .ref (xa 6), .ref (xa 7), .int (nI tr), .int (nI fl), .int pl], ob g 0 [.int (nI (cy 0)), .int (nI (cy 1)), .int (nI (cy 2)), .int (nI (cy 3)), .int (nI (cy 4)), .int (nI (cy 5)), .int (nI (cy 6)), .int (nI (cy 7)), .ref (ca 0), .ref (ca 1), .ref (ca 2), .ref (ca 3), .ref (ca 4), .ref (ca 5), .ref (ca 6), .ref (ca 7), .ref (ca 8), .ref (ca 9), .ref (ca 10), .ref (ca 11)], aM E (ca 5) 8 Fs, aM E (ca 6) 8 Ft, ob (xa 3) 2 [.ref hi, .ref hm, .int (nI t), .int (nI dd)], aN E hi 8 ink, aI E hm 8 mn, ob (xa 4) 2 [.ref ri, .ref rm, .int (nI t), .int (nI ((dd + vi) + 1))], aN E ri 8 ((rainQ (cy 2) (vg, vs)).1), aI E rm 8 mn]) rfl rfl ?_
                refine v_istore X dX6_freeBy_106 (by decide) (lv' := [(4, .int (nI ((rainQ (cy 2) (vg, vs)).2))), (0, .ref x), (1, .int m), (2, .int (nI kz)), (3, .int (nI kn)), (5, .int (nI vi))]) rfl ?_
                refine v_iinc X dX6_freeBy_108 5 rfl (v := nI (vi + 1)) (nI_inc vi) (by decide) (lv' := [(5, .int (nI (vi + 1))), (4, .int (nI ((rainQ (cy 2) (vg, vs)).2))), (0, .ref x), (1, .int m), (2, .int (nI kz)), (3, .int (nI kn))]) rfl ?_
                refine v_goto X dX6_freeBy_111 (tgt := 51) (by decide) ?_
                refine V.lvs [2, 3, 4, 5, 1, 0] rfl ?_
                exact ih51 (vi + 1) ((rainQ (cy 2) (vg, vs)).1) ((rainQ (cy 2) (vg, vs)).2) (⟨by omega, by rw [rainIt_s, ← hb], hq.trans (fst_no (by omega) ((frP_e hb).trans (decide_eq_false (fun q => q h80))))⟩) (by omega)
              · refine v_aload_n X dX6_freeBy_83 rfl 0 rfl ?_
                refine v_iload X dX6_freeBy_84 5 rfl ?_
                refine v_wrI1 X (rn_V X k_X6_answered ml_X6_92 dX6_freeBy_86 (c_X6_answered l E x xa g tr fl pl (nI vi) ) rfl 0 rfl rfl (by decide) (by decide) (by omega) (by omega) (Nat.le_of_ble_eq_true rfl)) [0] rfl rfl (ws' := [ob x 6 [.ref (xa 0), .ref g, .ref (xa 2), .ref (xa 3), .ref (xa 4), .ref (xa 5), .ref (xa 6), .ref (xa 7), .int (nI 0), .int (nI fl), .int pl], ob g 0 [.int (nI (cy 0)), .int (nI (cy 1)), .int (nI (cy 2)), .int (nI (cy 3)), .int (nI (cy 4)), .int (nI (cy 5)), .int (nI (cy 6)), .int (nI (cy 7)), .ref (ca 0), .ref (ca 1), .ref (ca 2), .ref (ca 3), .ref (ca 4), .ref (ca 5), .ref (ca 6), .ref (ca 7), .ref (ca 8), .ref (ca 9), .ref (ca 10), .ref (ca 11)], aM E (ca 5) 8 Fs, aM E (ca 6) 8 Ft, ob (xa 3) 2 [.ref hi, .ref hm, .int (nI t), .int (nI dd)], aN E hi 8 ink, aI E hm 8 mn, ob (xa 4) 2 [.ref ri, .ref rm, .int (nI t), .int (nI (dd + vi))], aN E ri 8 vg, aI E rm 8 mn]) rfl rfl ?_
                exact v_iret X Y dX6_freeBy_89 (wrI_of (by rw [if_pos (of_decide_eq_true h5), if_pos ⟨of_decide_eq_true h18, of_decide_eq_true h25⟩]; rw [if_pos ⟨of_decide_eq_true h5, of_decide_eq_true h18, of_decide_eq_true h25⟩, if_pos ⟨of_decide_eq_true h5, of_decide_eq_true h18, of_decide_eq_true h25⟩, if_pos ⟨of_decide_eq_true h5, of_decide_eq_true h18, of_decide_eq_true h25⟩, if_pos ⟨of_decide_eq_true h5, of_decide_eq_true h18, of_decide_eq_true h25⟩, tn_n (show kn < 2 ^ 31 by omega), tn_n (show kz < 2 ^ 31 by omega), hq, fst_hit (by omega) ((frP_e hb).trans (decide_eq_true h80)), Option.getD, ← hb]) (by rw [if_pos (of_decide_eq_true h5), if_pos ⟨of_decide_eq_true h18, of_decide_eq_true h25⟩, tn_n (show kn < 2 ^ 31 by omega), tn_n (show kz < 2 ^ 31 by omega), hq, fst_hit (by omega) ((frP_e hb).trans (decide_eq_true h80))]; rfl)) (by omega) (by omega)
        refine V.lvs [2, 3, 4, 5, 1, 0] rfl ?_
        exact L51 _ 0 ink kz (⟨by omega, rfl, rfl⟩) (Nat.lt_succ_self _)
      · refine v_aload_n X dX6_freeBy_28 rfl 0 rfl ?_
        refine v_iconst X dX6_freeBy_29 (v := nI 2) (by decide) ?_
        refine v_wrI1 X (rn_V X k_X6_refused ml_X6_74 dX6_freeBy_30 (c_X6_refused l E x xa g tr fl pl 2 ) rfl 0 rfl rfl (by decide) (by decide) (by omega) (by omega) (Nat.le_of_ble_eq_true rfl)) [0] rfl rfl (ws' := [ob x 6 [.ref (xa 0), .ref g, .ref (xa 2), .ref (xa 3), .ref (xa 4), .ref (xa 5), .ref (xa 6), .ref (xa 7), .int (nI 2), .int (nI fl), .int pl], ob g 0 [.int (nI (cy 0)), .int (nI (cy 1)), .int (nI (cy 2)), .int (nI (cy 3)), .int (nI (cy 4)), .int (nI (cy 5)), .int (nI (cy 6)), .int (nI (cy 7)), .ref (ca 0), .ref (ca 1), .ref (ca 2), .ref (ca 3), .ref (ca 4), .ref (ca 5), .ref (ca 6), .ref (ca 7), .ref (ca 8), .ref (ca 9), .ref (ca 10), .ref (ca 11)], aM E (ca 5) 8 Fs, aM E (ca 6) 8 Ft, ob (xa 3) 2 [.ref hi, .ref hm, .int (nI t), .int (nI dd)], aN E hi 8 ink, aI E hm 8 mn, ob (xa 4) 2 [.ref ri, .ref rm, .int (nI t4), .int (nI d4)], aN E ri 8 ink4, aI E rm 8 mn4]) rfl rfl ?_
        exact v_iret X Y dX6_freeBy_33 (wrI_of (by rw [if_pos (of_decide_eq_true h5), if_neg (fun q => of_decide_eq_false h25 q.2)]; rw [if_neg (fun q => of_decide_eq_false h25 q.2.2), if_neg (fun q => of_decide_eq_false h25 q.2.2), if_neg (fun q => of_decide_eq_false h25 q.2.2), if_neg (fun q => of_decide_eq_false h25 q.2.2)]) (((if_pos (of_decide_eq_true h5)).trans (if_neg (fun q => of_decide_eq_false h25 q.2))).symm)) (by omega) (by omega)
  · refine v_aload_n X dX6_freeBy_8 rfl 0 rfl ?_
    refine v_iconst X dX6_freeBy_9 (v := nI 1) (by decide) ?_
    refine v_wrI1 X (rn_V X k_X6_refused ml_X6_74 dX6_freeBy_10 (c_X6_refused l E x xa g tr fl pl 1 ) rfl 0 rfl rfl (by decide) (by decide) (by omega) (by omega) (Nat.le_of_ble_eq_true rfl)) [0] rfl rfl (ws' := [ob x 6 [.ref (xa 0), .ref g, .ref (xa 2), .ref (xa 3), .ref (xa 4), .ref (xa 5), .ref (xa 6), .ref (xa 7), .int (nI 1), .int (nI fl), .int pl], ob g 0 [.int (nI (cy 0)), .int (nI (cy 1)), .int (nI (cy 2)), .int (nI (cy 3)), .int (nI (cy 4)), .int (nI (cy 5)), .int (nI (cy 6)), .int (nI (cy 7)), .ref (ca 0), .ref (ca 1), .ref (ca 2), .ref (ca 3), .ref (ca 4), .ref (ca 5), .ref (ca 6), .ref (ca 7), .ref (ca 8), .ref (ca 9), .ref (ca 10), .ref (ca 11)], aM E (ca 5) 8 Fs, aM E (ca 6) 8 Ft, ob (xa 3) 2 [.ref hi, .ref hm, .int (nI t), .int (nI dd)], aN E hi 8 ink, aI E hm 8 mn, ob (xa 4) 2 [.ref ri, .ref rm, .int (nI t4), .int (nI d4)], aN E ri 8 ink4, aI E rm 8 mn4]) rfl rfl ?_
    exact v_iret X Y dX6_freeBy_13 (wrI_of (by rw [if_neg (of_decide_eq_false h5), if_neg (fun q => of_decide_eq_false h5 q.1), if_neg (fun q => of_decide_eq_false h5 q.1), if_neg (fun q => of_decide_eq_false h5 q.1), if_neg (fun q => of_decide_eq_false h5 q.1)]) ((if_neg (of_decide_eq_false h5)).symm)) (by omega) (by omega)
set_option maxRecDepth 100000 in
set_option maxHeartbeats 4000000 in
theorem c_X6_size (l : Launch) (E : Et) (x : Nat) (xa : Nat → Nat) (g : Nat) (tr : Nat) (fl : Nat) (pl : Int32) (cy : Nat → Nat) (ca : Nat → Nat) (hi : Nat) (hm : Nat) (t : Nat) (dd : Nat) (pq : Nat → Nat) (o : Nat) (ac : Nat) (im : Nat) (ra : Nat → Nat) (fd : Nat) (re : Nat) (rk : Nat) (rp : Nat) (rn : Nat) (rv : Int64) (rh : Bool) (rc : Nat) (rf : Nat) (rw : Int32) (w : Int32)  : Ct l E yX6_size cX6_size 2 (some .int) 0 0 0 [.ref x, .int w] [ob x 6 [.ref (xa 0), .ref g, .ref (xa 2), .ref (xa 3), .ref (xa 4), .ref (xa 5), .ref (xa 6), .ref (xa 7), .int (nI tr), .int (nI fl), .int pl], ob g 0 [.int (nI (cy 0)), .int (nI (cy 1)), .int (nI (cy 2)), .int (nI (cy 3)), .int (nI (cy 4)), .int (nI (cy 5)), .int (nI (cy 6)), .int (nI (cy 7)), .ref (ca 0), .ref (ca 1), .ref (ca 2), .ref (ca 3), .ref (ca 4), .ref (ca 5), .ref (ca 6), .ref (ca 7), .ref (ca 8), .ref (ca 9), .ref (ca 10), .ref (ca 11)], ob (xa 3) 2 [.ref hi, .ref hm, .int (nI t), .int (nI dd)], ob (xa 5) 3 [.ref (pq 0), .ref (pq 1), .int (nI o), .int (nI ac), .int (nI im)], ob (xa 0) 4 [.ref (ra 0), .int (nI fd), .ref (ra 2), .ref (ra 3), .int (nI re), .int (nI rk), .int (nI rp), .int (nI rn), .long rv, .int (nI (rh).toNat), .ref (ra 10), .ref (ra 11), .ref (ra 12), .int (nI rc), .int (nI rf), .int rw]] (roI [ob x 6 [.ref (xa 0), .ref g, .ref (xa 2), .ref (xa 3), .ref (xa 4), .ref (xa 5), .ref (xa 6), .ref (xa 7), .int (nI tr), .int (nI fl), .int pl], ob g 0 [.int (nI (cy 0)), .int (nI (cy 1)), .int (nI (cy 2)), .int (nI (cy 3)), .int (nI (cy 4)), .int (nI (cy 5)), .int (nI (cy 6)), .int (nI (cy 7)), .ref (ca 0), .ref (ca 1), .ref (ca 2), .ref (ca 3), .ref (ca 4), .ref (ca 5), .ref (ca 6), .ref (ca 7), .ref (ca 8), .ref (ca 9), .ref (ca 10), .ref (ca 11)], ob (xa 3) 2 [.ref hi, .ref hm, .int (nI t), .int (nI dd)], ob (xa 5) 3 [.ref (pq 0), .ref (pq 1), .int (nI o), .int (nI ac), .int (nI im)], ob (xa 0) 4 [.ref (ra 0), .int (nI fd), .ref (ra 2), .ref (ra 3), .int (nI re), .int (nI rk), .int (nI rp), .int (nI rn), .long rv, .int (nI (rh).toNat), .ref (ra 10), .ref (ra 11), .ref (ra 12), .int (nI rc), .int (nI rf), .int rw]] (if w.toInt < 0 ∨ (11 : Int) < w.toInt then (-1) else nI (szV cy dd ac im fd (tn w)))) := by
  refine Ct.intro (by decide +kernel) (Nat.le_of_ble_eq_true rfl) (lv := [(0, .ref x), (1, .int w)]) rfl ?_
  intro Z X Y
  refine v_iload_n X dX6_size_0 rfl 1 rfl ?_
  rcases sw_cases w 11 with hsw | ⟨jsw, hjsw, rfl⟩
  · refine v_swOut X dX6_size_1 hsw (tgt := 160) (by decide) ?_
    refine v_iconst X dX6_size_160 (v := (-1)) (by decide) ?_
    exact v_iret X Y dX6_size_161 (roI_of ((if_pos hsw).symm)) (by omega) (by omega)
  · obtain rfl | rfl | rfl | rfl | rfl | rfl | rfl | rfl | rfl | rfl | rfl | rfl : jsw = 0 ∨ jsw = 1 ∨ jsw = 2 ∨ jsw = 3 ∨ jsw = 4 ∨ jsw = 5 ∨ jsw = 6 ∨ jsw = 7 ∨ jsw = 8 ∨ jsw = 9 ∨ jsw = 10 ∨ jsw = 11 := by omega
    · refine v_swIn X dX6_size_1 (by decide) (by decide) (off := 63) (by decide) (tgt := 64) (by decide) ?_
      refine v_aload_n X dX6_size_64 rfl 0 rfl ?_
      refine v_get X kcX6 fl_X6_19 dX6_size_65 0 rfl rfl ?_
      refine v_getN X kcX0 fl_X6_275 dX6_size_68 1 rfl rfl ?_
      exact v_iret X Y dX6_size_71 (roI_of (((if_neg (by decide)).trans rfl).symm)) (by omega) (by omega)
    · refine v_swIn X dX6_size_1 (by decide) (by decide) (off := 71) (by decide) (tgt := 72) (by decide) ?_
      refine v_aload_n X dX6_size_72 rfl 0 rfl ?_
      refine v_get X kcX6 fl_X6_19 dX6_size_73 0 rfl rfl ?_
      refine v_getN X kcX0 fl_X6_301 dX6_size_76 1 rfl rfl ?_
      exact v_iret X Y dX6_size_79 (roI_of (((if_neg (by decide)).trans rfl).symm)) (by omega) (by omega)
    · refine v_swIn X dX6_size_1 (by decide) (by decide) (off := 79) (by decide) (tgt := 80) (by decide) ?_
      refine v_aload_n X dX6_size_80 rfl 0 rfl ?_
      refine v_get X kcX6 fl_X6_19 dX6_size_81 0 rfl rfl ?_
      refine v_getN X kcX0 fl_X6_246 dX6_size_84 1 rfl rfl ?_
      exact v_iret X Y dX6_size_87 (roI_of (((if_neg (by decide)).trans rfl).symm)) (by omega) (by omega)
    · refine v_swIn X dX6_size_1 (by decide) (by decide) (off := 87) (by decide) (tgt := 88) (by decide) ?_
      refine v_aload_n X dX6_size_88 rfl 0 rfl ?_
      refine v_get X kcX6 fl_X6_19 dX6_size_89 0 rfl rfl ?_
      refine v_getN X kcX0 fl_X6_89 dX6_size_92 1 rfl rfl ?_
      exact v_iret X Y dX6_size_95 (roI_of (((if_neg (by decide)).trans rfl).symm)) (by omega) (by omega)
    · refine v_swIn X dX6_size_1 (by decide) (by decide) (off := 95) (by decide) (tgt := 96) (by decide) ?_
      refine v_aload_n X dX6_size_96 rfl 0 rfl ?_
      refine v_get X kcX6 fl_X6_19 dX6_size_97 0 rfl rfl ?_
      refine v_getN X kcX0 fl_X6_304 dX6_size_100 1 rfl rfl ?_
      exact v_iret X Y dX6_size_103 (roI_of (((if_neg (by decide)).trans rfl).symm)) (by omega) (by omega)
    · refine v_swIn X dX6_size_1 (by decide) (by decide) (off := 103) (by decide) (tgt := 104) (by decide) ?_
      refine v_aload_n X dX6_size_104 rfl 0 rfl ?_
      refine v_get X kcX6 fl_X6_19 dX6_size_105 0 rfl rfl ?_
      refine v_getN X kcX0 fl_X6_179 dX6_size_108 1 rfl rfl ?_
      exact v_iret X Y dX6_size_111 (roI_of (((if_neg (by decide)).trans rfl).symm)) (by omega) (by omega)
    · refine v_swIn X dX6_size_1 (by decide) (by decide) (off := 111) (by decide) (tgt := 112) (by decide) ?_
      refine v_aload_n X dX6_size_112 rfl 0 rfl ?_
      refine v_get X kcX6 fl_X6_19 dX6_size_113 0 rfl rfl ?_
      refine v_getN X kcX0 fl_X6_204 dX6_size_116 1 rfl rfl ?_
      exact v_iret X Y dX6_size_119 (roI_of (((if_neg (by decide)).trans rfl).symm)) (by omega) (by omega)
    · refine v_swIn X dX6_size_1 (by decide) (by decide) (off := 119) (by decide) (tgt := 120) (by decide) ?_
      refine v_aload_n X dX6_size_120 rfl 0 rfl ?_
      refine v_get X kcX6 fl_X6_19 dX6_size_121 0 rfl rfl ?_
      refine v_getN X kcX0 fl_X6_223 dX6_size_124 1 rfl rfl ?_
      exact v_iret X Y dX6_size_127 (roI_of (((if_neg (by decide)).trans rfl).symm)) (by omega) (by omega)
    · refine v_swIn X dX6_size_1 (by decide) (by decide) (off := 127) (by decide) (tgt := 128) (by decide) ?_
      refine v_aload_n X dX6_size_128 rfl 0 rfl ?_
      refine v_get X kcX6 fl_X6_30 dX6_size_129 0 rfl rfl ?_
      refine v_getN X kcX2 fl_X6_266 dX6_size_132 2 rfl rfl ?_
      exact v_iret X Y dX6_size_135 (roI_of (((if_neg (by decide)).trans rfl).symm)) (by omega) (by omega)
    · refine v_swIn X dX6_size_1 (by decide) (by decide) (off := 135) (by decide) (tgt := 136) (by decide) ?_
      refine v_aload_n X dX6_size_136 rfl 0 rfl ?_
      refine v_get X kcX6 fl_X6_39 dX6_size_137 0 rfl rfl ?_
      refine v_getN X kcX3 fl_X6_307 dX6_size_140 3 rfl rfl ?_
      exact v_iret X Y dX6_size_143 (roI_of (((if_neg (by decide)).trans rfl).symm)) (by omega) (by omega)
    · refine v_swIn X dX6_size_1 (by decide) (by decide) (off := 143) (by decide) (tgt := 144) (by decide) ?_
      refine v_aload_n X dX6_size_144 rfl 0 rfl ?_
      refine v_get X kcX6 fl_X6_39 dX6_size_145 0 rfl rfl ?_
      refine v_getN X kcX3 fl_X6_310 dX6_size_148 3 rfl rfl ?_
      exact v_iret X Y dX6_size_151 (roI_of (((if_neg (by decide)).trans rfl).symm)) (by omega) (by omega)
    · refine v_swIn X dX6_size_1 (by decide) (by decide) (off := 151) (by decide) (tgt := 152) (by decide) ?_
      refine v_aload_n X dX6_size_152 rfl 0 rfl ?_
      refine v_get X kcX6 fl_X6_12 dX6_size_153 0 rfl rfl ?_
      refine v_getN X kcX4 fl_X6_67 dX6_size_156 4 rfl rfl ?_
      exact v_iret X Y dX6_size_159 (roI_of (((if_neg (by decide)).trans rfl).symm)) (by omega) (by omega)
