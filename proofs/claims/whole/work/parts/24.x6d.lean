set_option maxRecDepth 100000 in
set_option maxHeartbeats 4000000 in
theorem c_X6_clause (l : Launch) (E : Et) (x : Nat) (xa : Nat → Nat) (g : Nat) (tr : Nat) (fl : Nat) (pl : Int32) (cy : Nat → Nat) (ca : Nat → Nat) (f0 : Nat → Nat) (f1 : Nat → Nat) (f2 : Nat → Int32) (f4 : Nat → Nat) (hi : Nat) (hm : Nat) (t : Nat) (dd : Nat) (ink : Nat → Nat) (mn : Nat → Int32) (c : Int32) (w : Int32) (hcl : cy 5 ≤ 8) (ht : t < 256) : Ct l E yX6_clause cX6_clause 3 (some .int) 6 0 0 [.ref x, .int c, .int w] [ob x 6 [.ref (xa 0), .ref g, .ref (xa 2), .ref (xa 3), .ref (xa 4), .ref (xa 5), .ref (xa 6), .ref (xa 7), .int (nI tr), .int (nI fl), .int pl], ob g 0 [.int (nI (cy 0)), .int (nI (cy 1)), .int (nI (cy 2)), .int (nI (cy 3)), .int (nI (cy 4)), .int (nI (cy 5)), .int (nI (cy 6)), .int (nI (cy 7)), .ref (ca 0), .ref (ca 1), .ref (ca 2), .ref (ca 3), .ref (ca 4), .ref (ca 5), .ref (ca 6), .ref (ca 7), .ref (ca 8), .ref (ca 9), .ref (ca 10), .ref (ca 11)], aN E (ca 0) 8 f0, aN E (ca 1) 8 f1, aI E (ca 2) 8 f2, aN E (ca 4) 8 f4, ob (xa 3) 2 [.ref hi, .ref hm, .int (nI t), .int (nI dd)], aN E hi 8 ink, aI E hm 8 mn] (wrI [ob x 6 [.ref (xa 0), .ref g, .ref (xa 2), .ref (xa 3), .ref (xa 4), .ref (xa 5), .ref (xa 6), .ref (xa 7), .int (nI (if okM c (cy 5) ∧ ¬ (w.toInt < 0 ∨ (6 : Int) < w.toInt) then 0 else 1)), .int (nI fl), .int pl], ob g 0 [.int (nI (cy 0)), .int (nI (cy 1)), .int (nI (cy 2)), .int (nI (cy 3)), .int (nI (cy 4)), .int (nI (cy 5)), .int (nI (cy 6)), .int (nI (cy 7)), .ref (ca 0), .ref (ca 1), .ref (ca 2), .ref (ca 3), .ref (ca 4), .ref (ca 5), .ref (ca 6), .ref (ca 7), .ref (ca 8), .ref (ca 9), .ref (ca 10), .ref (ca 11)], aN E (ca 0) 8 f0, aN E (ca 1) 8 f1, aI E (ca 2) 8 f2, aN E (ca 4) 8 f4, ob (xa 3) 2 [.ref hi, .ref hm, .int (nI t), .int (nI dd)], aN E hi 8 ink, aI E hm 8 mn] (if okM c (cy 5) then (if w.toInt < 0 ∨ (6 : Int) < w.toInt then (-1) else clV f0 f1 f2 mn ink f4 t (tn c) (tn w)) else (-1))) := by
  refine Ct.intro (by decide +kernel) (Nat.le_of_ble_eq_true rfl) (lv := [(0, .ref x), (1, .int c), (2, .int w)]) rfl ?_
  intro Z X Y
  refine v_aload_n X dX6_clause_0 rfl 0 rfl ?_
  refine v_iload_n X dX6_clause_1 rfl 1 rfl ?_
  refine v_roI1 X (rn_V X k_X6_isClause ml_X6_95 dX6_clause_2 (c_X6_isClause l E x xa g tr fl pl cy ca c ) rfl 0 rfl rfl (by decide) (by decide) (by omega) (by omega) (Nat.le_of_ble_eq_true rfl)) [0, 1] rfl rfl ?_
  refine v_ifB_ne X dX6_clause_5 (tgt := 14) (by decide) (fun h5 => ?_) (fun h5 => ?_)
  · obtain ⟨kc, hkc, rfl⟩ := okM_nat (of_decide_eq_true h5) (by omega)
    refine v_iload_n X dX6_clause_14 rfl 2 rfl ?_
    rcases sw_cases w 6 with hsw | ⟨jsw, hjsw, rfl⟩
    · refine v_swOut X dX6_clause_15 hsw (tgt := 156) (by decide) ?_
      refine v_aload_n X dX6_clause_156 rfl 0 rfl ?_
      refine v_iconst X dX6_clause_157 (v := nI 1) (by decide) ?_
      refine v_wrI1 X (rn_V X k_X6_refused ml_X6_74 dX6_clause_158 (c_X6_refused l E x xa g tr fl pl 1 ) rfl 0 rfl rfl (by decide) (by decide) (by omega) (by omega) (Nat.le_of_ble_eq_true rfl)) [0] rfl rfl (ws' := [ob x 6 [.ref (xa 0), .ref g, .ref (xa 2), .ref (xa 3), .ref (xa 4), .ref (xa 5), .ref (xa 6), .ref (xa 7), .int (nI 1), .int (nI fl), .int pl], ob g 0 [.int (nI (cy 0)), .int (nI (cy 1)), .int (nI (cy 2)), .int (nI (cy 3)), .int (nI (cy 4)), .int (nI (cy 5)), .int (nI (cy 6)), .int (nI (cy 7)), .ref (ca 0), .ref (ca 1), .ref (ca 2), .ref (ca 3), .ref (ca 4), .ref (ca 5), .ref (ca 6), .ref (ca 7), .ref (ca 8), .ref (ca 9), .ref (ca 10), .ref (ca 11)], aN E (ca 0) 8 f0, aN E (ca 1) 8 f1, aI E (ca 2) 8 f2, aN E (ca 4) 8 f4, ob (xa 3) 2 [.ref hi, .ref hm, .int (nI t), .int (nI dd)], aN E hi 8 ink, aI E hm 8 mn]) rfl rfl ?_
      exact v_iret X Y dX6_clause_161 (wrI_of (by rw [if_neg (fun q => q.2 hsw)]) (((if_pos (of_decide_eq_true h5)).trans (if_pos hsw)).symm)) (by omega) (by omega)
    · obtain rfl | rfl | rfl | rfl | rfl | rfl | rfl : jsw = 0 ∨ jsw = 1 ∨ jsw = 2 ∨ jsw = 3 ∨ jsw = 4 ∨ jsw = 5 ∨ jsw = 6 := by omega
      · refine v_swIn X dX6_clause_15 (by decide) (by decide) (off := 41) (by decide) (tgt := 56) (by decide) ?_
        refine v_aload_n X dX6_clause_56 rfl 0 rfl ?_
        refine v_aload_n X dX6_clause_57 rfl 0 rfl ?_
        refine v_get X kcX6 fl_X6_19 dX6_clause_58 0 rfl rfl ?_
        refine v_getN X kcX0 fl_X6_98 dX6_clause_61 1 rfl rfl ?_
        refine v_iload_n X dX6_clause_64 rfl 1 rfl ?_
        refine v_iald X dX6_clause_65 2 rfl (by omega) (by decide) ?_
        refine v_wrI1 X (rn_V X k_X6_answered ml_X6_92 dX6_clause_66 (c_X6_answered l E x xa g tr fl pl (nI (f0 kc)) ) rfl 0 rfl rfl (by decide) (by decide) (by omega) (by omega) (Nat.le_of_ble_eq_true rfl)) [0] rfl rfl (ws' := [ob x 6 [.ref (xa 0), .ref g, .ref (xa 2), .ref (xa 3), .ref (xa 4), .ref (xa 5), .ref (xa 6), .ref (xa 7), .int (nI 0), .int (nI fl), .int pl], ob g 0 [.int (nI (cy 0)), .int (nI (cy 1)), .int (nI (cy 2)), .int (nI (cy 3)), .int (nI (cy 4)), .int (nI (cy 5)), .int (nI (cy 6)), .int (nI (cy 7)), .ref (ca 0), .ref (ca 1), .ref (ca 2), .ref (ca 3), .ref (ca 4), .ref (ca 5), .ref (ca 6), .ref (ca 7), .ref (ca 8), .ref (ca 9), .ref (ca 10), .ref (ca 11)], aN E (ca 0) 8 f0, aN E (ca 1) 8 f1, aI E (ca 2) 8 f2, aN E (ca 4) 8 f4, ob (xa 3) 2 [.ref hi, .ref hm, .int (nI t), .int (nI dd)], aN E hi 8 ink, aI E hm 8 mn]) rfl rfl ?_
        exact v_iret X Y dX6_clause_69 (wrI_of (by rw [if_pos ⟨of_decide_eq_true h5, by decide⟩]) (by rw [if_pos (of_decide_eq_true h5), if_neg (by decide), tn_n (show kc < 2 ^ 31 by omega)]; rfl)) (by omega) (by omega)
      · refine v_swIn X dX6_clause_15 (by decide) (by decide) (off := 55) (by decide) (tgt := 70) (by decide) ?_
        refine v_aload_n X dX6_clause_70 rfl 0 rfl ?_
        refine v_aload_n X dX6_clause_71 rfl 0 rfl ?_
        refine v_get X kcX6 fl_X6_19 dX6_clause_72 0 rfl rfl ?_
        refine v_getN X kcX0 fl_X6_102 dX6_clause_75 1 rfl rfl ?_
        refine v_iload_n X dX6_clause_78 rfl 1 rfl ?_
        refine v_iald X dX6_clause_79 3 rfl (by omega) (by decide) ?_
        refine v_wrI1 X (rn_V X k_X6_answered ml_X6_92 dX6_clause_80 (c_X6_answered l E x xa g tr fl pl (nI (f1 kc)) ) rfl 0 rfl rfl (by decide) (by decide) (by omega) (by omega) (Nat.le_of_ble_eq_true rfl)) [0] rfl rfl (ws' := [ob x 6 [.ref (xa 0), .ref g, .ref (xa 2), .ref (xa 3), .ref (xa 4), .ref (xa 5), .ref (xa 6), .ref (xa 7), .int (nI 0), .int (nI fl), .int pl], ob g 0 [.int (nI (cy 0)), .int (nI (cy 1)), .int (nI (cy 2)), .int (nI (cy 3)), .int (nI (cy 4)), .int (nI (cy 5)), .int (nI (cy 6)), .int (nI (cy 7)), .ref (ca 0), .ref (ca 1), .ref (ca 2), .ref (ca 3), .ref (ca 4), .ref (ca 5), .ref (ca 6), .ref (ca 7), .ref (ca 8), .ref (ca 9), .ref (ca 10), .ref (ca 11)], aN E (ca 0) 8 f0, aN E (ca 1) 8 f1, aI E (ca 2) 8 f2, aN E (ca 4) 8 f4, ob (xa 3) 2 [.ref hi, .ref hm, .int (nI t), .int (nI dd)], aN E hi 8 ink, aI E hm 8 mn]) rfl rfl ?_
        exact v_iret X Y dX6_clause_83 (wrI_of (by rw [if_pos ⟨of_decide_eq_true h5, by decide⟩]) (by rw [if_pos (of_decide_eq_true h5), if_neg (by decide), tn_n (show kc < 2 ^ 31 by omega)]; rfl)) (by omega) (by omega)
      · refine v_swIn X dX6_clause_15 (by decide) (by decide) (off := 69) (by decide) (tgt := 84) (by decide) ?_
        refine v_aload_n X dX6_clause_84 rfl 0 rfl ?_
        refine v_aload_n X dX6_clause_85 rfl 0 rfl ?_
        refine v_get X kcX6 fl_X6_19 dX6_clause_86 0 rfl rfl ?_
        refine v_getN X kcX0 fl_X6_104 dX6_clause_89 1 rfl rfl ?_
        refine v_iload_n X dX6_clause_92 rfl 1 rfl ?_
        refine v_iald X dX6_clause_93 4 rfl (by omega) (by decide) ?_
        refine v_wrI1 X (rn_V X k_X6_answered ml_X6_92 dX6_clause_94 (c_X6_answered l E x xa g tr fl pl (f2 kc) ) rfl 0 rfl rfl (by decide) (by decide) (by omega) (by omega) (Nat.le_of_ble_eq_true rfl)) [0] rfl rfl (ws' := [ob x 6 [.ref (xa 0), .ref g, .ref (xa 2), .ref (xa 3), .ref (xa 4), .ref (xa 5), .ref (xa 6), .ref (xa 7), .int (nI 0), .int (nI fl), .int pl], ob g 0 [.int (nI (cy 0)), .int (nI (cy 1)), .int (nI (cy 2)), .int (nI (cy 3)), .int (nI (cy 4)), .int (nI (cy 5)), .int (nI (cy 6)), .int (nI (cy 7)), .ref (ca 0), .ref (ca 1), .ref (ca 2), .ref (ca 3), .ref (ca 4), .ref (ca 5), .ref (ca 6), .ref (ca 7), .ref (ca 8), .ref (ca 9), .ref (ca 10), .ref (ca 11)], aN E (ca 0) 8 f0, aN E (ca 1) 8 f1, aI E (ca 2) 8 f2, aN E (ca 4) 8 f4, ob (xa 3) 2 [.ref hi, .ref hm, .int (nI t), .int (nI dd)], aN E hi 8 ink, aI E hm 8 mn]) rfl rfl ?_
        exact v_iret X Y dX6_clause_97 (wrI_of (by rw [if_pos ⟨of_decide_eq_true h5, by decide⟩]) (by rw [if_pos (of_decide_eq_true h5), if_neg (by decide), tn_n (show kc < 2 ^ 31 by omega)]; rfl)) (by omega) (by omega)
      · refine v_swIn X dX6_clause_15 (by decide) (by decide) (off := 83) (by decide) (tgt := 98) (by decide) ?_
        refine v_aload_n X dX6_clause_98 rfl 0 rfl ?_
        refine v_aload_n X dX6_clause_99 rfl 0 rfl ?_
        refine v_get X kcX6 fl_X6_30 dX6_clause_100 0 rfl rfl ?_
        refine v_getN X kcX2 fl_X6_107 dX6_clause_103 6 rfl rfl ?_
        refine v_iload_n X dX6_clause_106 rfl 1 rfl ?_
        refine v_iald X dX6_clause_107 8 rfl (by omega) (by decide) ?_
        refine v_wrI1 X (rn_V X k_X6_answered ml_X6_92 dX6_clause_108 (c_X6_answered l E x xa g tr fl pl (mn kc) ) rfl 0 rfl rfl (by decide) (by decide) (by omega) (by omega) (Nat.le_of_ble_eq_true rfl)) [0] rfl rfl (ws' := [ob x 6 [.ref (xa 0), .ref g, .ref (xa 2), .ref (xa 3), .ref (xa 4), .ref (xa 5), .ref (xa 6), .ref (xa 7), .int (nI 0), .int (nI fl), .int pl], ob g 0 [.int (nI (cy 0)), .int (nI (cy 1)), .int (nI (cy 2)), .int (nI (cy 3)), .int (nI (cy 4)), .int (nI (cy 5)), .int (nI (cy 6)), .int (nI (cy 7)), .ref (ca 0), .ref (ca 1), .ref (ca 2), .ref (ca 3), .ref (ca 4), .ref (ca 5), .ref (ca 6), .ref (ca 7), .ref (ca 8), .ref (ca 9), .ref (ca 10), .ref (ca 11)], aN E (ca 0) 8 f0, aN E (ca 1) 8 f1, aI E (ca 2) 8 f2, aN E (ca 4) 8 f4, ob (xa 3) 2 [.ref hi, .ref hm, .int (nI t), .int (nI dd)], aN E hi 8 ink, aI E hm 8 mn]) rfl rfl ?_
        exact v_iret X Y dX6_clause_111 (wrI_of (by rw [if_pos ⟨of_decide_eq_true h5, by decide⟩]) (by rw [if_pos (of_decide_eq_true h5), if_neg (by decide), tn_n (show kc < 2 ^ 31 by omega)]; rfl)) (by omega) (by omega)
      · refine v_swIn X dX6_clause_15 (by decide) (by decide) (off := 97) (by decide) (tgt := 112) (by decide) ?_
        refine v_aload_n X dX6_clause_112 rfl 0 rfl ?_
        refine v_aload_n X dX6_clause_113 rfl 0 rfl ?_
        refine v_get X kcX6 fl_X6_30 dX6_clause_114 0 rfl rfl ?_
        refine v_getN X kcX2 fl_X6_110 dX6_clause_117 6 rfl rfl ?_
        refine v_iload_n X dX6_clause_120 rfl 1 rfl ?_
        refine v_iald X dX6_clause_121 7 rfl (by omega) (by decide) ?_
        refine v_wrI1 X (rn_V X k_X6_answered ml_X6_92 dX6_clause_122 (c_X6_answered l E x xa g tr fl pl (nI (ink kc)) ) rfl 0 rfl rfl (by decide) (by decide) (by omega) (by omega) (Nat.le_of_ble_eq_true rfl)) [0] rfl rfl (ws' := [ob x 6 [.ref (xa 0), .ref g, .ref (xa 2), .ref (xa 3), .ref (xa 4), .ref (xa 5), .ref (xa 6), .ref (xa 7), .int (nI 0), .int (nI fl), .int pl], ob g 0 [.int (nI (cy 0)), .int (nI (cy 1)), .int (nI (cy 2)), .int (nI (cy 3)), .int (nI (cy 4)), .int (nI (cy 5)), .int (nI (cy 6)), .int (nI (cy 7)), .ref (ca 0), .ref (ca 1), .ref (ca 2), .ref (ca 3), .ref (ca 4), .ref (ca 5), .ref (ca 6), .ref (ca 7), .ref (ca 8), .ref (ca 9), .ref (ca 10), .ref (ca 11)], aN E (ca 0) 8 f0, aN E (ca 1) 8 f1, aI E (ca 2) 8 f2, aN E (ca 4) 8 f4, ob (xa 3) 2 [.ref hi, .ref hm, .int (nI t), .int (nI dd)], aN E hi 8 ink, aI E hm 8 mn]) rfl rfl ?_
        exact v_iret X Y dX6_clause_125 (wrI_of (by rw [if_pos ⟨of_decide_eq_true h5, by decide⟩]) (by rw [if_pos (of_decide_eq_true h5), if_neg (by decide), tn_n (show kc < 2 ^ 31 by omega)]; rfl)) (by omega) (by omega)
      · refine v_swIn X dX6_clause_15 (by decide) (by decide) (off := 111) (by decide) (tgt := 126) (by decide) ?_
        refine v_aload_n X dX6_clause_126 rfl 0 rfl ?_
        refine v_aload_n X dX6_clause_127 rfl 0 rfl ?_
        refine v_get X kcX6 fl_X6_30 dX6_clause_128 0 rfl rfl ?_
        refine v_getN X kcX2 fl_X6_113 dX6_clause_131 6 rfl rfl ?_
        refine v_iload_n X dX6_clause_134 rfl 1 rfl ?_
        refine v_ishr X dX6_clause_135 ?_
        refine v_eqi (x' := nI (t / 2 ^ kc)) (nI_shr (Nat.lt_trans ht (by decide)) (by omega)) ?_
        refine v_iconst X dX6_clause_136 (v := nI 1) (by decide) ?_
        refine v_iand X dX6_clause_137 ?_
        refine v_eqi (x' := nI ((t / 2 ^ kc) &&& 1)) (fa_and _ _) ?_
        refine v_wrI1 X (rn_V X k_X6_answered ml_X6_92 dX6_clause_138 (c_X6_answered l E x xa g tr fl pl (nI ((t / 2 ^ kc) &&& 1)) ) rfl 0 rfl rfl (by decide) (by decide) (by omega) (by omega) (Nat.le_of_ble_eq_true rfl)) [0] rfl rfl (ws' := [ob x 6 [.ref (xa 0), .ref g, .ref (xa 2), .ref (xa 3), .ref (xa 4), .ref (xa 5), .ref (xa 6), .ref (xa 7), .int (nI 0), .int (nI fl), .int pl], ob g 0 [.int (nI (cy 0)), .int (nI (cy 1)), .int (nI (cy 2)), .int (nI (cy 3)), .int (nI (cy 4)), .int (nI (cy 5)), .int (nI (cy 6)), .int (nI (cy 7)), .ref (ca 0), .ref (ca 1), .ref (ca 2), .ref (ca 3), .ref (ca 4), .ref (ca 5), .ref (ca 6), .ref (ca 7), .ref (ca 8), .ref (ca 9), .ref (ca 10), .ref (ca 11)], aN E (ca 0) 8 f0, aN E (ca 1) 8 f1, aI E (ca 2) 8 f2, aN E (ca 4) 8 f4, ob (xa 3) 2 [.ref hi, .ref hm, .int (nI t), .int (nI dd)], aN E hi 8 ink, aI E hm 8 mn]) rfl rfl ?_
        exact v_iret X Y dX6_clause_141 (wrI_of (by rw [if_pos ⟨of_decide_eq_true h5, by decide⟩]) (by rw [if_pos (of_decide_eq_true h5), if_neg (by decide), tn_n (show kc < 2 ^ 31 by omega), tb_and1]; rfl)) (by omega) (by omega)
      · refine v_swIn X dX6_clause_15 (by decide) (by decide) (off := 127) (by decide) (tgt := 142) (by decide) ?_
        refine v_aload_n X dX6_clause_142 rfl 0 rfl ?_
        refine v_aload_n X dX6_clause_143 rfl 0 rfl ?_
        refine v_get X kcX6 fl_X6_19 dX6_clause_144 0 rfl rfl ?_
        refine v_getN X kcX0 fl_X6_116 dX6_clause_147 1 rfl rfl ?_
        refine v_iload_n X dX6_clause_150 rfl 1 rfl ?_
        refine v_iald X dX6_clause_151 5 rfl (by omega) (by decide) ?_
        refine v_wrI1 X (rn_V X k_X6_answered ml_X6_92 dX6_clause_152 (c_X6_answered l E x xa g tr fl pl (nI (f4 kc)) ) rfl 0 rfl rfl (by decide) (by decide) (by omega) (by omega) (Nat.le_of_ble_eq_true rfl)) [0] rfl rfl (ws' := [ob x 6 [.ref (xa 0), .ref g, .ref (xa 2), .ref (xa 3), .ref (xa 4), .ref (xa 5), .ref (xa 6), .ref (xa 7), .int (nI 0), .int (nI fl), .int pl], ob g 0 [.int (nI (cy 0)), .int (nI (cy 1)), .int (nI (cy 2)), .int (nI (cy 3)), .int (nI (cy 4)), .int (nI (cy 5)), .int (nI (cy 6)), .int (nI (cy 7)), .ref (ca 0), .ref (ca 1), .ref (ca 2), .ref (ca 3), .ref (ca 4), .ref (ca 5), .ref (ca 6), .ref (ca 7), .ref (ca 8), .ref (ca 9), .ref (ca 10), .ref (ca 11)], aN E (ca 0) 8 f0, aN E (ca 1) 8 f1, aI E (ca 2) 8 f2, aN E (ca 4) 8 f4, ob (xa 3) 2 [.ref hi, .ref hm, .int (nI t), .int (nI dd)], aN E hi 8 ink, aI E hm 8 mn]) rfl rfl ?_
        exact v_iret X Y dX6_clause_155 (wrI_of (by rw [if_pos ⟨of_decide_eq_true h5, by decide⟩]) (by rw [if_pos (of_decide_eq_true h5), if_neg (by decide), tn_n (show kc < 2 ^ 31 by omega)]; rfl)) (by omega) (by omega)
  · refine v_aload_n X dX6_clause_8 rfl 0 rfl ?_
    refine v_iconst X dX6_clause_9 (v := nI 1) (by decide) ?_
    refine v_wrI1 X (rn_V X k_X6_refused ml_X6_74 dX6_clause_10 (c_X6_refused l E x xa g tr fl pl 1 ) rfl 0 rfl rfl (by decide) (by decide) (by omega) (by omega) (Nat.le_of_ble_eq_true rfl)) [0] rfl rfl (ws' := [ob x 6 [.ref (xa 0), .ref g, .ref (xa 2), .ref (xa 3), .ref (xa 4), .ref (xa 5), .ref (xa 6), .ref (xa 7), .int (nI 1), .int (nI fl), .int pl], ob g 0 [.int (nI (cy 0)), .int (nI (cy 1)), .int (nI (cy 2)), .int (nI (cy 3)), .int (nI (cy 4)), .int (nI (cy 5)), .int (nI (cy 6)), .int (nI (cy 7)), .ref (ca 0), .ref (ca 1), .ref (ca 2), .ref (ca 3), .ref (ca 4), .ref (ca 5), .ref (ca 6), .ref (ca 7), .ref (ca 8), .ref (ca 9), .ref (ca 10), .ref (ca 11)], aN E (ca 0) 8 f0, aN E (ca 1) 8 f1, aI E (ca 2) 8 f2, aN E (ca 4) 8 f4, ob (xa 3) 2 [.ref hi, .ref hm, .int (nI t), .int (nI dd)], aN E hi 8 ink, aI E hm 8 mn]) rfl rfl ?_
    exact v_iret X Y dX6_clause_13 (wrI_of (by rw [if_neg (fun q => of_decide_eq_false h5 q.1)]) ((if_neg (of_decide_eq_false h5)).symm)) (by omega) (by omega)
set_option maxRecDepth 100000 in
set_option maxHeartbeats 4000000 in
theorem c_X6_man (l : Launch) (E : Et) (x : Nat) (xa : Nat → Nat) (g : Nat) (tr : Nat) (fl : Nat) (pl : Int32) (cy : Nat → Nat) (ca : Nat → Nat) (hi : Nat) (hm : Nat) (t : Nat) (dd : Nat) (ink : Nat → Nat) (mn : Nat → Int32) (m : Int32) (w : Int32) (hink : ∀ c, ink c ≤ 40) (hmen : cy 3 ≤ 4) : Ct l E yX6_man cX6_man 3 (some .int) 6 0 0 [.ref x, .int m, .int w] [ob x 6 [.ref (xa 0), .ref g, .ref (xa 2), .ref (xa 3), .ref (xa 4), .ref (xa 5), .ref (xa 6), .ref (xa 7), .int (nI tr), .int (nI fl), .int pl], ob g 0 [.int (nI (cy 0)), .int (nI (cy 1)), .int (nI (cy 2)), .int (nI (cy 3)), .int (nI (cy 4)), .int (nI (cy 5)), .int (nI (cy 6)), .int (nI (cy 7)), .ref (ca 0), .ref (ca 1), .ref (ca 2), .ref (ca 3), .ref (ca 4), .ref (ca 5), .ref (ca 6), .ref (ca 7), .ref (ca 8), .ref (ca 9), .ref (ca 10), .ref (ca 11)], ob (xa 3) 2 [.ref hi, .ref hm, .int (nI t), .int (nI dd)], aN E hi 8 ink, aI E hm 8 mn] (wrI [ob x 6 [.ref (xa 0), .ref g, .ref (xa 2), .ref (xa 3), .ref (xa 4), .ref (xa 5), .ref (xa 6), .ref (xa 7), .int (nI (if okM m (cy 3) ∧ ¬ (w.toInt < 0 ∨ (2 : Int) < w.toInt) then 0 else 1)), .int (nI fl), .int pl], ob g 0 [.int (nI (cy 0)), .int (nI (cy 1)), .int (nI (cy 2)), .int (nI (cy 3)), .int (nI (cy 4)), .int (nI (cy 5)), .int (nI (cy 6)), .int (nI (cy 7)), .ref (ca 0), .ref (ca 1), .ref (ca 2), .ref (ca 3), .ref (ca 4), .ref (ca 5), .ref (ca 6), .ref (ca 7), .ref (ca 8), .ref (ca 9), .ref (ca 10), .ref (ca 11)], ob (xa 3) 2 [.ref hi, .ref hm, .int (nI t), .int (nI dd)], aN E hi 8 ink, aI E hm 8 mn] (if okM m (cy 3) then (if w.toInt < 0 ∨ (2 : Int) < w.toInt then (-1) else maV ink mn m (tn w)) else (-1))) := by
  refine Ct.intro (by decide +kernel) (Nat.le_of_ble_eq_true rfl) (lv := [(0, .ref x), (1, .int m), (2, .int w)]) rfl ?_
  intro Z X Y
  refine v_aload_n X dX6_man_0 rfl 0 rfl ?_
  refine v_iload_n X dX6_man_1 rfl 1 rfl ?_
  refine v_roI1 X (rn_V X k_X6_isMan ml_X6_117 dX6_man_2 (c_X6_isMan l E x xa g tr fl pl cy ca m ) rfl 0 rfl rfl (by decide) (by decide) (by omega) (by omega) (Nat.le_of_ble_eq_true rfl)) [0, 1] rfl rfl ?_
  refine v_ifB_ne X dX6_man_5 (tgt := 14) (by decide) (fun h5 => ?_) (fun h5 => ?_)
  · refine v_iload_n X dX6_man_14 rfl 2 rfl ?_
    rcases sw_cases w 2 with hsw | ⟨jsw, hjsw, rfl⟩
    · refine v_swOut X dX6_man_15 hsw (tgt := 82) (by decide) ?_
      refine v_aload_n X dX6_man_82 rfl 0 rfl ?_
      refine v_iconst X dX6_man_83 (v := nI 1) (by decide) ?_
      refine v_wrI1 X (rn_V X k_X6_refused ml_X6_74 dX6_man_84 (c_X6_refused l E x xa g tr fl pl 1 ) rfl 0 rfl rfl (by decide) (by decide) (by omega) (by omega) (Nat.le_of_ble_eq_true rfl)) [0] rfl rfl (ws' := [ob x 6 [.ref (xa 0), .ref g, .ref (xa 2), .ref (xa 3), .ref (xa 4), .ref (xa 5), .ref (xa 6), .ref (xa 7), .int (nI 1), .int (nI fl), .int pl], ob g 0 [.int (nI (cy 0)), .int (nI (cy 1)), .int (nI (cy 2)), .int (nI (cy 3)), .int (nI (cy 4)), .int (nI (cy 5)), .int (nI (cy 6)), .int (nI (cy 7)), .ref (ca 0), .ref (ca 1), .ref (ca 2), .ref (ca 3), .ref (ca 4), .ref (ca 5), .ref (ca 6), .ref (ca 7), .ref (ca 8), .ref (ca 9), .ref (ca 10), .ref (ca 11)], ob (xa 3) 2 [.ref hi, .ref hm, .int (nI t), .int (nI dd)], aN E hi 8 ink, aI E hm 8 mn]) rfl rfl ?_
      exact v_iret X Y dX6_man_87 (wrI_of (by rw [if_neg (fun q => q.2 hsw)]) (((if_pos (of_decide_eq_true h5)).trans (if_pos hsw)).symm)) (by omega) (by omega)
    · obtain rfl | rfl | rfl : jsw = 0 ∨ jsw = 1 ∨ jsw = 2 := by omega
      · refine v_swIn X dX6_man_15 (by decide) (by decide) (off := 25) (by decide) (tgt := 40) (by decide) ?_
        refine v_aload_n X dX6_man_40 rfl 0 rfl ?_
        refine v_aload_n X dX6_man_41 rfl 0 rfl ?_
        refine v_get X kcX6 fl_X6_30 dX6_man_42 0 rfl rfl ?_
        refine v_iload_n X dX6_man_45 rfl 1 rfl ?_
        refine v_roI1 X (rn_VN X k_X2_pressedOn ml_X6_120 dX6_man_46 (c_X2_pressedOn l E (xa 3) hi hm t dd mn m ) rfl 0 rfl rfl (by decide) (by decide) (by omega) (by omega) (Nat.le_of_ble_eq_true rfl)) [2, 4] rfl rfl ?_
        refine v_wrI1 X (rn_V X k_X6_answered ml_X6_92 dX6_man_49 (c_X6_answered l E x xa g tr fl pl (nI (bbits (fun c => decide (mn c = m)) 8)) ) rfl 0 rfl rfl (by decide) (by decide) (by omega) (by omega) (Nat.le_of_ble_eq_true rfl)) [0] rfl rfl (ws' := [ob x 6 [.ref (xa 0), .ref g, .ref (xa 2), .ref (xa 3), .ref (xa 4), .ref (xa 5), .ref (xa 6), .ref (xa 7), .int (nI 0), .int (nI fl), .int pl], ob g 0 [.int (nI (cy 0)), .int (nI (cy 1)), .int (nI (cy 2)), .int (nI (cy 3)), .int (nI (cy 4)), .int (nI (cy 5)), .int (nI (cy 6)), .int (nI (cy 7)), .ref (ca 0), .ref (ca 1), .ref (ca 2), .ref (ca 3), .ref (ca 4), .ref (ca 5), .ref (ca 6), .ref (ca 7), .ref (ca 8), .ref (ca 9), .ref (ca 10), .ref (ca 11)], ob (xa 3) 2 [.ref hi, .ref hm, .int (nI t), .int (nI dd)], aN E hi 8 ink, aI E hm 8 mn]) rfl rfl ?_
        exact v_iret X Y dX6_man_52 (wrI_of (by rw [if_pos ⟨of_decide_eq_true h5, by decide⟩]) (by rw [if_pos (of_decide_eq_true h5), if_neg (by decide)]; rfl)) (by omega) (by omega)
      · refine v_swIn X dX6_man_15 (by decide) (by decide) (off := 38) (by decide) (tgt := 53) (by decide) ?_
        refine v_aload_n X dX6_man_53 rfl 0 rfl ?_
        refine v_aload_n X dX6_man_54 rfl 0 rfl ?_
        refine v_iload_n X dX6_man_55 rfl 1 rfl ?_
        refine v_iconst X dX6_man_56 (v := nI 0) (by decide) ?_
        refine v_roI1 X (rn_V X k_X6_bound ml_X6_123 dX6_man_57 (c_X6_bound l E x xa g tr fl pl hi hm t dd ink mn m 0 (by first | assumption | omega) (by omega)) rfl 0 rfl rfl (by decide) (by decide) (by omega) (by omega) (Nat.le_of_ble_eq_true rfl)) [0, 2, 3, 4] rfl rfl ?_
        refine v_wrI1 X (rn_V X k_X6_answered ml_X6_92 dX6_man_60 (c_X6_answered l E x xa g tr fl pl (nI (bdN ink mn m 0)) ) rfl 0 rfl rfl (by decide) (by decide) (by omega) (by omega) (Nat.le_of_ble_eq_true rfl)) [0] rfl rfl (ws' := [ob x 6 [.ref (xa 0), .ref g, .ref (xa 2), .ref (xa 3), .ref (xa 4), .ref (xa 5), .ref (xa 6), .ref (xa 7), .int (nI 0), .int (nI fl), .int pl], ob g 0 [.int (nI (cy 0)), .int (nI (cy 1)), .int (nI (cy 2)), .int (nI (cy 3)), .int (nI (cy 4)), .int (nI (cy 5)), .int (nI (cy 6)), .int (nI (cy 7)), .ref (ca 0), .ref (ca 1), .ref (ca 2), .ref (ca 3), .ref (ca 4), .ref (ca 5), .ref (ca 6), .ref (ca 7), .ref (ca 8), .ref (ca 9), .ref (ca 10), .ref (ca 11)], ob (xa 3) 2 [.ref hi, .ref hm, .int (nI t), .int (nI dd)], aN E hi 8 ink, aI E hm 8 mn]) rfl rfl ?_
        exact v_iret X Y dX6_man_63 (wrI_of (by rw [if_pos ⟨of_decide_eq_true h5, by decide⟩]) (by rw [if_pos (of_decide_eq_true h5), if_neg (by decide)]; rfl)) (by omega) (by omega)
      · refine v_swIn X dX6_man_15 (by decide) (by decide) (off := 49) (by decide) (tgt := 64) (by decide) ?_
        refine v_aload_n X dX6_man_64 rfl 0 rfl ?_
        refine v_aload_n X dX6_man_65 rfl 0 rfl ?_
        refine v_get X kcX6 fl_X6_30 dX6_man_66 0 rfl rfl ?_
        refine v_aload_n X dX6_man_69 rfl 0 rfl ?_
        refine v_iload_n X dX6_man_70 rfl 1 rfl ?_
        refine v_iconst X dX6_man_71 (v := nI 0) (by decide) ?_
        refine v_roI1 X (rn_V X k_X6_bound ml_X6_123 dX6_man_72 (c_X6_bound l E x xa g tr fl pl hi hm t dd ink mn m 0 (by first | assumption | omega) (by omega)) rfl 0 rfl rfl (by decide) (by decide) (by omega) (by omega) (Nat.le_of_ble_eq_true rfl)) [0, 2, 3, 4] rfl rfl ?_
        refine v_roI1 X (rn_VN X k_X2_inkOf ml_X6_127 dX6_man_75 (c_X2_inkOf l E (xa 3) hi hm t dd ink (bdN ink mn m 0) (Nat.lt_trans (bdN_lt _ _ _ _) (by decide))) rfl 0 rfl rfl (by decide) (by decide) (by omega) (by omega) (Nat.le_of_ble_eq_true rfl)) [2, 3] rfl rfl ?_
        refine v_wrI1 X (rn_V X k_X6_answered ml_X6_92 dX6_man_78 (c_X6_answered l E x xa g tr fl pl (nI (fb_sm (fun c => if (bdN ink mn m 0).testBit c then ink c else 0) 8)) ) rfl 0 rfl rfl (by decide) (by decide) (by omega) (by omega) (Nat.le_of_ble_eq_true rfl)) [0] rfl rfl (ws' := [ob x 6 [.ref (xa 0), .ref g, .ref (xa 2), .ref (xa 3), .ref (xa 4), .ref (xa 5), .ref (xa 6), .ref (xa 7), .int (nI 0), .int (nI fl), .int pl], ob g 0 [.int (nI (cy 0)), .int (nI (cy 1)), .int (nI (cy 2)), .int (nI (cy 3)), .int (nI (cy 4)), .int (nI (cy 5)), .int (nI (cy 6)), .int (nI (cy 7)), .ref (ca 0), .ref (ca 1), .ref (ca 2), .ref (ca 3), .ref (ca 4), .ref (ca 5), .ref (ca 6), .ref (ca 7), .ref (ca 8), .ref (ca 9), .ref (ca 10), .ref (ca 11)], ob (xa 3) 2 [.ref hi, .ref hm, .int (nI t), .int (nI dd)], aN E hi 8 ink, aI E hm 8 mn]) rfl rfl ?_
        exact v_iret X Y dX6_man_81 (wrI_of (by rw [if_pos ⟨of_decide_eq_true h5, by decide⟩]) (by rw [if_pos (of_decide_eq_true h5), if_neg (by decide)]; rfl)) (by omega) (by omega)
  · refine v_aload_n X dX6_man_8 rfl 0 rfl ?_
    refine v_iconst X dX6_man_9 (v := nI 1) (by decide) ?_
    refine v_wrI1 X (rn_V X k_X6_refused ml_X6_74 dX6_man_10 (c_X6_refused l E x xa g tr fl pl 1 ) rfl 0 rfl rfl (by decide) (by decide) (by omega) (by omega) (Nat.le_of_ble_eq_true rfl)) [0] rfl rfl (ws' := [ob x 6 [.ref (xa 0), .ref g, .ref (xa 2), .ref (xa 3), .ref (xa 4), .ref (xa 5), .ref (xa 6), .ref (xa 7), .int (nI 1), .int (nI fl), .int pl], ob g 0 [.int (nI (cy 0)), .int (nI (cy 1)), .int (nI (cy 2)), .int (nI (cy 3)), .int (nI (cy 4)), .int (nI (cy 5)), .int (nI (cy 6)), .int (nI (cy 7)), .ref (ca 0), .ref (ca 1), .ref (ca 2), .ref (ca 3), .ref (ca 4), .ref (ca 5), .ref (ca 6), .ref (ca 7), .ref (ca 8), .ref (ca 9), .ref (ca 10), .ref (ca 11)], ob (xa 3) 2 [.ref hi, .ref hm, .int (nI t), .int (nI dd)], aN E hi 8 ink, aI E hm 8 mn]) rfl rfl ?_
    exact v_iret X Y dX6_man_13 (wrI_of (by rw [if_neg (fun q => of_decide_eq_false h5 q.1)]) ((if_neg (of_decide_eq_false h5)).symm)) (by omega) (by omega)
set_option maxRecDepth 100000 in
set_option maxHeartbeats 4000000 in
theorem c_X6_freeOdds (l : Launch) (E : Et) (x : Nat) (xa : Nat → Nat) (g : Nat) (tr : Nat) (fl : Nat) (pl : Int32) (cy : Nat → Nat) (ca : Nat → Nat) (Fs : Nat → Nat) (Ft : Nat → Nat) (hi : Nat) (hm : Nat) (t : Nat) (dd : Nat) (ink : Nat → Nat) (mn : Nat → Int32) (m : Int32) (b : Bool) (hd : cy 4 ≤ 6) (hcl : cy 5 ≤ 8) (hmen : cy 3 ≤ 4) (ht : t < 256) (hink : ∀ c, ink c ≤ 40) (hr : cy 2 ≤ 100) : Ct l E yX6_freeOdds cX6_freeOdds 7 (some .long) 6 0 0 [.ref x, .int m, .int (nI (b).toNat)] [ob x 6 [.ref (xa 0), .ref g, .ref (xa 2), .ref (xa 3), .ref (xa 4), .ref (xa 5), .ref (xa 6), .ref (xa 7), .int (nI tr), .int (nI fl), .int pl], ob g 0 [.int (nI (cy 0)), .int (nI (cy 1)), .int (nI (cy 2)), .int (nI (cy 3)), .int (nI (cy 4)), .int (nI (cy 5)), .int (nI (cy 6)), .int (nI (cy 7)), .ref (ca 0), .ref (ca 1), .ref (ca 2), .ref (ca 3), .ref (ca 4), .ref (ca 5), .ref (ca 6), .ref (ca 7), .ref (ca 8), .ref (ca 9), .ref (ca 10), .ref (ca 11)], aM E (ca 5) 8 Fs, aM E (ca 6) 8 Ft, ob (xa 3) 2 [.ref hi, .ref hm, .int (nI t), .int (nI dd)], aN E hi 8 ink, aI E hm 8 mn] (wrL [ob x 6 [.ref (xa 0), .ref g, .ref (xa 2), .ref (xa 3), .ref (xa 4), .ref (xa 5), .ref (xa 6), .ref (xa 7), .int (nI (if okM m (cy 3) then 0 else 1)), .int (nI fl), .int pl], ob g 0 [.int (nI (cy 0)), .int (nI (cy 1)), .int (nI (cy 2)), .int (nI (cy 3)), .int (nI (cy 4)), .int (nI (cy 5)), .int (nI (cy 6)), .int (nI (cy 7)), .ref (ca 0), .ref (ca 1), .ref (ca 2), .ref (ca 3), .ref (ca 4), .ref (ca 5), .ref (ca 6), .ref (ca 7), .ref (ca 8), .ref (ca 9), .ref (ca 10), .ref (ca 11)], aM E (ca 5) 8 Fs, aM E (ca 6) 8 Ft, ob (xa 3) 2 [.ref hi, .ref hm, .int (nI t), .int (nI dd)], aN E hi 8 ink, aI E hm 8 mn] (if okM m (cy 3) then lN (lowT (fb_sm (fun p => if decide (¬ kpN cy Fs Ft t p = 0) && decide (ndf p (bdN ink mn m 0) = 0) then rwN (cy 2) p (bdN ink mn m 0) * 1 else 0) (bdN ink mn m 0 + 1)) (100 ^ pop8 (bdN ink mn m 0)) b) else (-1))) := by
  refine Ct.intro (by decide +kernel) (Nat.le_of_ble_eq_true rfl) (lv := [(0, .ref x), (1, .int m), (2, .int (nI (b).toNat))]) rfl ?_
  intro Z X Y
  have hb256 : bdN ink mn m 0 < 256 := bdN_lt _ _ _ _
  refine v_aload_n X dX6_freeOdds_0 rfl 0 rfl ?_
  refine v_iload_n X dX6_freeOdds_1 rfl 1 rfl ?_
  refine v_roI1 X (rn_V X k_X6_isMan ml_X6_117 dX6_freeOdds_2 (c_X6_isMan l E x xa g tr fl pl cy ca m ) rfl 0 rfl rfl (by decide) (by decide) (by omega) (by omega) (Nat.le_of_ble_eq_true rfl)) [0, 1] rfl rfl ?_
  refine v_ifB_ne X dX6_freeOdds_5 (tgt := 15) (by decide) (fun h5 => ?_) (fun h5 => ?_)
  · refine v_aload_n X dX6_freeOdds_15 rfl 0 rfl ?_
    refine v_iload_n X dX6_freeOdds_16 rfl 1 rfl ?_
    refine v_iconst X dX6_freeOdds_17 (v := nI 0) (by decide) ?_
    refine v_roI1 X (rn_V X k_X6_bound ml_X6_123 dX6_freeOdds_18 (c_X6_bound l E x xa g tr fl pl hi hm t dd ink mn m 0 (by first | assumption | omega) (by omega)) rfl 0 rfl rfl (by decide) (by decide) (by omega) (by omega) (Nat.le_of_ble_eq_true rfl)) [0, 4, 5, 6] rfl rfl ?_
    refine v_istore_n X dX6_freeOdds_21 rfl (by decide) (lv' := [(3, .int (nI (bdN ink mn m 0))), (0, .ref x), (1, .int m), (2, .int (nI (b).toNat))]) rfl ?_
    refine v_lconst X dX6_freeOdds_22 (v := lN 0) (by decide) ?_
    refine v_lstore X dX6_freeOdds_23 (by decide) (lv' := [(4, .long (lN 0)), (3, .int (nI (bdN ink mn m 0))), (0, .ref x), (1, .int m), (2, .int (nI (b).toNat))]) rfl ?_
    refine v_iconst X dX6_freeOdds_25 (v := nI 0) (by decide) ?_
    refine v_istore X dX6_freeOdds_26 (by decide) (lv' := [(6, .int (nI 0)), (4, .long (lN 0)), (3, .int (nI (bdN ink mn m 0))), (0, .ref x), (1, .int m), (2, .int (nI (b).toNat))]) rfl ?_
    have L28 : ∀ (j28 : Nat) (vp : Nat) (vu : Nat), (vp ≤ bdN ink mn m 0 + 1 ∧ vu = fb_sm (fun p => if decide (¬ kpN cy Fs Ft t p = 0) && decide (ndf p (bdN ink mn m 0) = 0) then rwN (cy 2) p (bdN ink mn m 0) * 1 else 0) vp) → bdN ink mn m 0 + 1 - vp < j28 → V E Z 28 [(0, .ref x), (1, .int m), (2, .int (nI (b).toNat)), (3, .int (nI (bdN ink mn m 0))), (4, .long (lN vu)), (6, .int (nI vp))] [] [ob x 6 [.ref (xa 0), .ref g, .ref (xa 2), .ref (xa 3), .ref (xa 4), .ref (xa 5), .ref (xa 6), .ref (xa 7), .int (nI tr), .int (nI fl), .int pl], ob g 0 [.int (nI (cy 0)), .int (nI (cy 1)), .int (nI (cy 2)), .int (nI (cy 3)), .int (nI (cy 4)), .int (nI (cy 5)), .int (nI (cy 6)), .int (nI (cy 7)), .ref (ca 0), .ref (ca 1), .ref (ca 2), .ref (ca 3), .ref (ca 4), .ref (ca 5), .ref (ca 6), .ref (ca 7), .ref (ca 8), .ref (ca 9), .ref (ca 10), .ref (ca 11)], aM E (ca 5) 8 Fs, aM E (ca 6) 8 Ft, ob (xa 3) 2 [.ref hi, .ref hm, .int (nI t), .int (nI dd)], aN E hi 8 ink, aI E hm 8 mn] 0 0 := by
      intro j28
      induction j28 with
      | zero => intro vp vu hI hM; exact absurd hM (Nat.not_lt_zero _)
      | succ j28 ih28 =>
        intro vp vu hI28 hM28
        obtain ⟨hc, hb⟩ := id hI28
        refine v_iload X dX6_freeOdds_28 5 rfl ?_
        refine v_iload_n X dX6_freeOdds_30 rfl 3 rfl ?_
        refine v_icmpN_gt X dX6_freeOdds_31 (tgt := 72) (by decide) (by omega) (by omega) (fun h31 => ?_) (fun h31 => ?_)
        · refine v_aload_n X dX6_freeOdds_72 rfl 0 rfl ?_
          refine v_iconst X dX6_freeOdds_73 (v := nI 0) (by decide) ?_
          refine v_put X kcX6 fl_X6_57 dX6_freeOdds_74 0 rfl (ws' := [ob x 6 [.ref (xa 0), .ref g, .ref (xa 2), .ref (xa 3), .ref (xa 4), .ref (xa 5), .ref (xa 6), .ref (xa 7), .int (nI 0), .int (nI fl), .int pl], ob g 0 [.int (nI (cy 0)), .int (nI (cy 1)), .int (nI (cy 2)), .int (nI (cy 3)), .int (nI (cy 4)), .int (nI (cy 5)), .int (nI (cy 6)), .int (nI (cy 7)), .ref (ca 0), .ref (ca 1), .ref (ca 2), .ref (ca 3), .ref (ca 4), .ref (ca 5), .ref (ca 6), .ref (ca 7), .ref (ca 8), .ref (ca 9), .ref (ca 10), .ref (ca 11)], aM E (ca 5) 8 Fs, aM E (ca 6) 8 Ft, ob (xa 3) 2 [.ref hi, .ref hm, .int (nI t), .int (nI dd)], aN E hi 8 ink, aI E hm 8 mn]) rfl rfl ?_
          refine v_lload X dX6_freeOdds_77 4 rfl ?_
          refine v_bipush X dX6_freeOdds_79 (v := nI 100) (by decide) ?_
          refine v_iload_n X dX6_freeOdds_81 rfl 3 rfl ?_
          refine v_roI1 X (rn_S X k_J6_bitCount_0f7a4 ml_X6_164 dX6_freeOdds_82 (c_J6_bitCount_0f7a4 l E (bdN ink mn m 0) (by omega)) rfl (by decide) (by decide) (by omega) (by omega) (Nat.le_of_ble_eq_true rfl)) [] rfl rfl ?_
          refine v_roL1 X (rn_S X k_X6_power ml_X6_249 dX6_freeOdds_85 (c_X6_power l E 100 (cnt (fun k => (bdN ink mn m 0).testBit k) 8) (by omega) (Nat.lt_of_le_of_lt (cnt_le _ 8) (by decide))) rfl (by decide) (by decide) (by omega) (by omega) (Nat.le_of_ble_eq_true rfl)) [] rfl rfl ?_
          refine v_iload_n X dX6_freeOdds_88 rfl 2 rfl ?_
          refine v_roL1 X (rn_S X k_X6_lowestTerms ml_X6_210 dX6_freeOdds_89 (c_X6_lowestTerms l E vu (100 ^ (cnt (fun k => (bdN ink mn m 0).testBit k) 8)) b (by rw [hb, show vp = bdN ink mn m 0 + 1 by omega]; exact rain_lt hr hb256 (fun _ => 1) (fun _ => by decide) (fun p => decide (¬ kpN cy Fs Ft t p = 0))) (pow100 (pop8_le (bdN ink mn m 0)))) rfl (by decide) (by decide) (by omega) (by omega) (Nat.le_of_ble_eq_true rfl)) [] rfl rfl ?_
          exact v_lret X Y dX6_freeOdds_92 (wrL_of (by rw [if_pos (of_decide_eq_true h5)]) (by rw [if_pos (of_decide_eq_true h5), hb, show vp = bdN ink mn m 0 + 1 by omega]; rfl)) (by omega) (by omega)
        · refine v_iload X dX6_freeOdds_34 5 rfl ?_
          refine v_iload_n X dX6_freeOdds_36 rfl 3 rfl ?_
          refine v_roI1 X (rn_S X k_X6_isPart ml_X6_172 dX6_freeOdds_37 (c_X6_isPart l E vp (bdN ink mn m 0) (by omega)) rfl (by decide) (by decide) (by omega) (by omega) (Nat.le_of_ble_eq_true rfl)) [] rfl rfl ?_
          refine v_ifB_eq X dX6_freeOdds_40 (tgt := 66) (by decide) (fun h40 => ?_) (fun h40 => ?_)
          · refine v_iinc X dX6_freeOdds_66 5 rfl (v := nI (vp + 1)) (nI_inc vp) (by decide) (lv' := [(6, .int (nI (vp + 1))), (0, .ref x), (1, .int m), (2, .int (nI (b).toNat)), (3, .int (nI (bdN ink mn m 0))), (4, .long (lN vu))]) rfl ?_
            refine v_goto X dX6_freeOdds_69 (tgt := 28) (by decide) ?_
            refine V.lvs [1, 2, 3, 4, 5, 0] rfl ?_
            exact ih28 (vp + 1) vu (⟨by omega, by rw [hb, fb_sm]; rw [h40, Bool.and_false]; simp⟩) (by omega)
          · refine v_aload_n X dX6_freeOdds_43 rfl 0 rfl ?_
            refine v_iload X dX6_freeOdds_44 5 rfl ?_
            refine v_roL1 X (rn_V X k_X6_setsUnder ml_X6_133 dX6_freeOdds_46 (c_X6_setsUnder l E x xa g tr fl pl cy ca Fs Ft hi hm t dd ink mn vp (by first | assumption | omega) (by first | assumption | omega) (by first | assumption | omega) (by omega)) rfl 0 rfl rfl (by decide) (by decide) (by omega) (by omega) (Nat.le_of_ble_eq_true rfl)) [0, 1, 2, 3, 4, 5, 6] rfl rfl ?_
            refine v_lconst X dX6_freeOdds_49 (v := lN 0) (by decide) ?_
            refine v_lcmp X dX6_freeOdds_50 ?_
            refine v_ifLN_eq X dX6_freeOdds_51 (tgt := 66) (by decide) (kpN_lt hd _ _ _ _) (by decide) (fun h51 => ?_) (fun h51 => ?_)
            · refine v_iinc X dX6_freeOdds_66 5 rfl (v := nI (vp + 1)) (nI_inc vp) (by decide) (lv' := [(6, .int (nI (vp + 1))), (0, .ref x), (1, .int m), (2, .int (nI (b).toNat)), (3, .int (nI (bdN ink mn m 0))), (4, .long (lN vu))]) rfl ?_
              refine v_goto X dX6_freeOdds_69 (tgt := 28) (by decide) ?_
              refine V.lvs [1, 2, 3, 4, 5, 0] rfl ?_
              exact ih28 (vp + 1) vu (⟨by omega, by rw [hb, fb_sm]; rw [decide_eq_false (fun q => q h51), Bool.false_and]; simp⟩) (by omega)
            · refine v_lload X dX6_freeOdds_54 4 rfl ?_
              refine v_aload_n X dX6_freeOdds_56 rfl 0 rfl ?_
              refine v_iload X dX6_freeOdds_57 5 rfl ?_
              refine v_iload_n X dX6_freeOdds_59 rfl 3 rfl ?_
              refine v_roL1 X (rn_V X k_X6_rainWeight ml_X6_253 dX6_freeOdds_60 (c_X6_rainWeight l E x xa g tr fl pl cy ca vp (bdN ink mn m 0) (by first | assumption | omega) (by first | assumption | omega) (by first | assumption | omega) (pop_le (of_decide_eq_true h40))) rfl 0 rfl rfl (by decide) (by decide) (by omega) (by omega) (Nat.le_of_ble_eq_true rfl)) [0, 1] rfl rfl ?_
              refine v_ladd X dX6_freeOdds_63 ?_
              refine v_eql (x' := lN (vu + (rwN (cy 2) vp (bdN ink mn m 0)))) (lN_add _ _) ?_
              refine v_lstore X dX6_freeOdds_64 (by decide) (lv' := [(4, .long (lN (vu + (rwN (cy 2) vp (bdN ink mn m 0))))), (0, .ref x), (1, .int m), (2, .int (nI (b).toNat)), (3, .int (nI (bdN ink mn m 0))), (6, .int (nI vp))]) rfl ?_
              refine v_iinc X dX6_freeOdds_66 5 rfl (v := nI (vp + 1)) (nI_inc vp) (by decide) (lv' := [(6, .int (nI (vp + 1))), (4, .long (lN (vu + (rwN (cy 2) vp (bdN ink mn m 0))))), (0, .ref x), (1, .int m), (2, .int (nI (b).toNat)), (3, .int (nI (bdN ink mn m 0)))]) rfl ?_
              refine v_goto X dX6_freeOdds_69 (tgt := 28) (by decide) ?_
              refine V.lvs [2, 3, 4, 5, 1, 0] rfl ?_
              exact ih28 (vp + 1) (vu + (rwN (cy 2) vp (bdN ink mn m 0))) (⟨by omega, by rw [hb, fb_sm]; rw [decide_eq_true h51, h40, Nat.mul_one]; simp⟩) (by omega)
    refine V.lvs [3, 4, 5, 2, 1, 0] rfl ?_
    exact L28 _ 0 0 (⟨by omega, rfl⟩) (Nat.lt_succ_self _)
  · refine v_aload_n X dX6_freeOdds_8 rfl 0 rfl ?_
    refine v_iconst X dX6_freeOdds_9 (v := nI 1) (by decide) ?_
    refine v_wrI1 X (rn_V X k_X6_refused ml_X6_74 dX6_freeOdds_10 (c_X6_refused l E x xa g tr fl pl 1 ) rfl 0 rfl rfl (by decide) (by decide) (by omega) (by omega) (Nat.le_of_ble_eq_true rfl)) [0] rfl rfl (ws' := [ob x 6 [.ref (xa 0), .ref g, .ref (xa 2), .ref (xa 3), .ref (xa 4), .ref (xa 5), .ref (xa 6), .ref (xa 7), .int (nI 1), .int (nI fl), .int pl], ob g 0 [.int (nI (cy 0)), .int (nI (cy 1)), .int (nI (cy 2)), .int (nI (cy 3)), .int (nI (cy 4)), .int (nI (cy 5)), .int (nI (cy 6)), .int (nI (cy 7)), .ref (ca 0), .ref (ca 1), .ref (ca 2), .ref (ca 3), .ref (ca 4), .ref (ca 5), .ref (ca 6), .ref (ca 7), .ref (ca 8), .ref (ca 9), .ref (ca 10), .ref (ca 11)], aM E (ca 5) 8 Fs, aM E (ca 6) 8 Ft, ob (xa 3) 2 [.ref hi, .ref hm, .int (nI t), .int (nI dd)], aN E hi 8 ink, aI E hm 8 mn]) rfl rfl ?_
    refine v_i2l X dX6_freeOdds_13 rfl ?_
    exact v_lret X Y dX6_freeOdds_14 (wrL_of (by rw [if_neg (of_decide_eq_false h5)]) (by rw [if_neg (of_decide_eq_false h5)]; rfl)) (by omega) (by omega)
set_option maxRecDepth 100000 in
set_option maxHeartbeats 4000000 in
theorem c_X6_mean (l : Launch) (E : Et) (x : Nat) (xa : Nat → Nat) (g : Nat) (tr : Nat) (fl : Nat) (pl : Int32) (cy : Nat → Nat) (ca : Nat → Nat) (Fs : Nat → Nat) (Ft : Nat → Nat) (hi : Nat) (hm : Nat) (t : Nat) (dd : Nat) (ink : Nat → Nat) (mn : Nat → Int32) (m : Int32) (b : Bool) (hd : cy 4 ≤ 6) (hcl : cy 5 ≤ 8) (hmen : cy 3 ≤ 4) (ht : t < 256) (hink : ∀ c, ink c ≤ 40) (hr : cy 2 ≤ 100) : Ct l E yX6_mean cX6_mean 7 (some .long) 6 0 0 [.ref x, .int m, .int (nI (b).toNat)] [ob x 6 [.ref (xa 0), .ref g, .ref (xa 2), .ref (xa 3), .ref (xa 4), .ref (xa 5), .ref (xa 6), .ref (xa 7), .int (nI tr), .int (nI fl), .int pl], ob g 0 [.int (nI (cy 0)), .int (nI (cy 1)), .int (nI (cy 2)), .int (nI (cy 3)), .int (nI (cy 4)), .int (nI (cy 5)), .int (nI (cy 6)), .int (nI (cy 7)), .ref (ca 0), .ref (ca 1), .ref (ca 2), .ref (ca 3), .ref (ca 4), .ref (ca 5), .ref (ca 6), .ref (ca 7), .ref (ca 8), .ref (ca 9), .ref (ca 10), .ref (ca 11)], aM E (ca 5) 8 Fs, aM E (ca 6) 8 Ft, ob (xa 3) 2 [.ref hi, .ref hm, .int (nI t), .int (nI dd)], aN E hi 8 ink, aI E hm 8 mn] (wrL [ob x 6 [.ref (xa 0), .ref g, .ref (xa 2), .ref (xa 3), .ref (xa 4), .ref (xa 5), .ref (xa 6), .ref (xa 7), .int (nI (if okM m (cy 3) then 0 else 1)), .int (nI fl), .int pl], ob g 0 [.int (nI (cy 0)), .int (nI (cy 1)), .int (nI (cy 2)), .int (nI (cy 3)), .int (nI (cy 4)), .int (nI (cy 5)), .int (nI (cy 6)), .int (nI (cy 7)), .ref (ca 0), .ref (ca 1), .ref (ca 2), .ref (ca 3), .ref (ca 4), .ref (ca 5), .ref (ca 6), .ref (ca 7), .ref (ca 8), .ref (ca 9), .ref (ca 10), .ref (ca 11)], aM E (ca 5) 8 Fs, aM E (ca 6) 8 Ft, ob (xa 3) 2 [.ref hi, .ref hm, .int (nI t), .int (nI dd)], aN E hi 8 ink, aI E hm 8 mn] (if okM m (cy 3) then lN (lowT (fb_sm (fun p => if true && decide (ndf p (bdN ink mn m 0) = 0) then rwN (cy 2) p (bdN ink mn m 0) * pop64 (kpN cy Fs Ft t p) else 0) (bdN ink mn m 0 + 1)) (100 ^ pop8 (bdN ink mn m 0)) b) else (-1))) := by
  refine Ct.intro (by decide +kernel) (Nat.le_of_ble_eq_true rfl) (lv := [(0, .ref x), (1, .int m), (2, .int (nI (b).toNat))]) rfl ?_
  intro Z X Y
  have hb256 : bdN ink mn m 0 < 256 := bdN_lt _ _ _ _
  refine v_aload_n X dX6_mean_0 rfl 0 rfl ?_
  refine v_iload_n X dX6_mean_1 rfl 1 rfl ?_
  refine v_roI1 X (rn_V X k_X6_isMan ml_X6_117 dX6_mean_2 (c_X6_isMan l E x xa g tr fl pl cy ca m ) rfl 0 rfl rfl (by decide) (by decide) (by omega) (by omega) (Nat.le_of_ble_eq_true rfl)) [0, 1] rfl rfl ?_
  refine v_ifB_ne X dX6_mean_5 (tgt := 15) (by decide) (fun h5 => ?_) (fun h5 => ?_)
  · refine v_aload_n X dX6_mean_15 rfl 0 rfl ?_
    refine v_iload_n X dX6_mean_16 rfl 1 rfl ?_
    refine v_iconst X dX6_mean_17 (v := nI 0) (by decide) ?_
    refine v_roI1 X (rn_V X k_X6_bound ml_X6_123 dX6_mean_18 (c_X6_bound l E x xa g tr fl pl hi hm t dd ink mn m 0 (by first | assumption | omega) (by omega)) rfl 0 rfl rfl (by decide) (by decide) (by omega) (by omega) (Nat.le_of_ble_eq_true rfl)) [0, 4, 5, 6] rfl rfl ?_
    refine v_istore_n X dX6_mean_21 rfl (by decide) (lv' := [(3, .int (nI (bdN ink mn m 0))), (0, .ref x), (1, .int m), (2, .int (nI (b).toNat))]) rfl ?_
    refine v_lconst X dX6_mean_22 (v := lN 0) (by decide) ?_
    refine v_lstore X dX6_mean_23 (by decide) (lv' := [(4, .long (lN 0)), (3, .int (nI (bdN ink mn m 0))), (0, .ref x), (1, .int m), (2, .int (nI (b).toNat))]) rfl ?_
    refine v_iconst X dX6_mean_25 (v := nI 0) (by decide) ?_
    refine v_istore X dX6_mean_26 (by decide) (lv' := [(6, .int (nI 0)), (4, .long (lN 0)), (3, .int (nI (bdN ink mn m 0))), (0, .ref x), (1, .int m), (2, .int (nI (b).toNat))]) rfl ?_
    have L28 : ∀ (j28 : Nat) (vp : Nat) (vu : Nat), (vp ≤ bdN ink mn m 0 + 1 ∧ vu = fb_sm (fun p => if true && decide (ndf p (bdN ink mn m 0) = 0) then rwN (cy 2) p (bdN ink mn m 0) * pop64 (kpN cy Fs Ft t p) else 0) vp) → bdN ink mn m 0 + 1 - vp < j28 → V E Z 28 [(0, .ref x), (1, .int m), (2, .int (nI (b).toNat)), (3, .int (nI (bdN ink mn m 0))), (4, .long (lN vu)), (6, .int (nI vp))] [] [ob x 6 [.ref (xa 0), .ref g, .ref (xa 2), .ref (xa 3), .ref (xa 4), .ref (xa 5), .ref (xa 6), .ref (xa 7), .int (nI tr), .int (nI fl), .int pl], ob g 0 [.int (nI (cy 0)), .int (nI (cy 1)), .int (nI (cy 2)), .int (nI (cy 3)), .int (nI (cy 4)), .int (nI (cy 5)), .int (nI (cy 6)), .int (nI (cy 7)), .ref (ca 0), .ref (ca 1), .ref (ca 2), .ref (ca 3), .ref (ca 4), .ref (ca 5), .ref (ca 6), .ref (ca 7), .ref (ca 8), .ref (ca 9), .ref (ca 10), .ref (ca 11)], aM E (ca 5) 8 Fs, aM E (ca 6) 8 Ft, ob (xa 3) 2 [.ref hi, .ref hm, .int (nI t), .int (nI dd)], aN E hi 8 ink, aI E hm 8 mn] 0 0 := by
      intro j28
      induction j28 with
      | zero => intro vp vu hI hM; exact absurd hM (Nat.not_lt_zero _)
      | succ j28 ih28 =>
        intro vp vu hI28 hM28
        obtain ⟨hc, hb⟩ := id hI28
        refine v_iload X dX6_mean_28 5 rfl ?_
        refine v_iload_n X dX6_mean_30 rfl 3 rfl ?_
        refine v_icmpN_gt X dX6_mean_31 (tgt := 72) (by decide) (by omega) (by omega) (fun h31 => ?_) (fun h31 => ?_)
        · refine v_aload_n X dX6_mean_72 rfl 0 rfl ?_
          refine v_iconst X dX6_mean_73 (v := nI 0) (by decide) ?_
          refine v_put X kcX6 fl_X6_57 dX6_mean_74 0 rfl (ws' := [ob x 6 [.ref (xa 0), .ref g, .ref (xa 2), .ref (xa 3), .ref (xa 4), .ref (xa 5), .ref (xa 6), .ref (xa 7), .int (nI 0), .int (nI fl), .int pl], ob g 0 [.int (nI (cy 0)), .int (nI (cy 1)), .int (nI (cy 2)), .int (nI (cy 3)), .int (nI (cy 4)), .int (nI (cy 5)), .int (nI (cy 6)), .int (nI (cy 7)), .ref (ca 0), .ref (ca 1), .ref (ca 2), .ref (ca 3), .ref (ca 4), .ref (ca 5), .ref (ca 6), .ref (ca 7), .ref (ca 8), .ref (ca 9), .ref (ca 10), .ref (ca 11)], aM E (ca 5) 8 Fs, aM E (ca 6) 8 Ft, ob (xa 3) 2 [.ref hi, .ref hm, .int (nI t), .int (nI dd)], aN E hi 8 ink, aI E hm 8 mn]) rfl rfl ?_
          refine v_lload X dX6_mean_77 4 rfl ?_
          refine v_bipush X dX6_mean_79 (v := nI 100) (by decide) ?_
          refine v_iload_n X dX6_mean_81 rfl 3 rfl ?_
          refine v_roI1 X (rn_S X k_J6_bitCount_0f7a4 ml_X6_164 dX6_mean_82 (c_J6_bitCount_0f7a4 l E (bdN ink mn m 0) (by omega)) rfl (by decide) (by decide) (by omega) (by omega) (Nat.le_of_ble_eq_true rfl)) [] rfl rfl ?_
          refine v_roL1 X (rn_S X k_X6_power ml_X6_249 dX6_mean_85 (c_X6_power l E 100 (cnt (fun k => (bdN ink mn m 0).testBit k) 8) (by omega) (Nat.lt_of_le_of_lt (cnt_le _ 8) (by decide))) rfl (by decide) (by decide) (by omega) (by omega) (Nat.le_of_ble_eq_true rfl)) [] rfl rfl ?_
          refine v_iload_n X dX6_mean_88 rfl 2 rfl ?_
          refine v_roL1 X (rn_S X k_X6_lowestTerms ml_X6_210 dX6_mean_89 (c_X6_lowestTerms l E vu (100 ^ (cnt (fun k => (bdN ink mn m 0).testBit k) 8)) b (by rw [hb, show vp = bdN ink mn m 0 + 1 by omega]; exact rain_lt hr hb256 (fun p => pop64 (kpN cy Fs Ft t p)) (fun _ => pop64_le _) (fun _ => true)) (pow100 (pop8_le (bdN ink mn m 0)))) rfl (by decide) (by decide) (by omega) (by omega) (Nat.le_of_ble_eq_true rfl)) [] rfl rfl ?_
          exact v_lret X Y dX6_mean_92 (wrL_of (by rw [if_pos (of_decide_eq_true h5)]) (by rw [if_pos (of_decide_eq_true h5), hb, show vp = bdN ink mn m 0 + 1 by omega]; rfl)) (by omega) (by omega)
        · refine v_iload X dX6_mean_34 5 rfl ?_
          refine v_iload_n X dX6_mean_36 rfl 3 rfl ?_
          refine v_roI1 X (rn_S X k_X6_isPart ml_X6_172 dX6_mean_37 (c_X6_isPart l E vp (bdN ink mn m 0) (by omega)) rfl (by decide) (by decide) (by omega) (by omega) (Nat.le_of_ble_eq_true rfl)) [] rfl rfl ?_
          refine v_ifB_eq X dX6_mean_40 (tgt := 66) (by decide) (fun h40 => ?_) (fun h40 => ?_)
          · refine v_iinc X dX6_mean_66 5 rfl (v := nI (vp + 1)) (nI_inc vp) (by decide) (lv' := [(6, .int (nI (vp + 1))), (0, .ref x), (1, .int m), (2, .int (nI (b).toNat)), (3, .int (nI (bdN ink mn m 0))), (4, .long (lN vu))]) rfl ?_
            refine v_goto X dX6_mean_69 (tgt := 28) (by decide) ?_
            refine V.lvs [1, 2, 3, 4, 5, 0] rfl ?_
            exact ih28 (vp + 1) vu (⟨by omega, by rw [hb, fb_sm]; rw [h40, Bool.and_false]; simp⟩) (by omega)
          · refine v_lload X dX6_mean_43 4 rfl ?_
            refine v_aload_n X dX6_mean_45 rfl 0 rfl ?_
            refine v_iload X dX6_mean_46 5 rfl ?_
            refine v_iload_n X dX6_mean_48 rfl 3 rfl ?_
            refine v_roL1 X (rn_V X k_X6_rainWeight ml_X6_253 dX6_mean_49 (c_X6_rainWeight l E x xa g tr fl pl cy ca vp (bdN ink mn m 0) (by first | assumption | omega) (by first | assumption | omega) (by first | assumption | omega) (pop_le (of_decide_eq_true h40))) rfl 0 rfl rfl (by decide) (by decide) (by omega) (by omega) (Nat.le_of_ble_eq_true rfl)) [0, 1] rfl rfl ?_
            refine v_aload_n X dX6_mean_52 rfl 0 rfl ?_
            refine v_iload X dX6_mean_53 5 rfl ?_
            refine v_roL1 X (rn_V X k_X6_setsUnder ml_X6_133 dX6_mean_55 (c_X6_setsUnder l E x xa g tr fl pl cy ca Fs Ft hi hm t dd ink mn vp (by first | assumption | omega) (by first | assumption | omega) (by first | assumption | omega) (by omega)) rfl 0 rfl rfl (by decide) (by decide) (by omega) (by omega) (Nat.le_of_ble_eq_true rfl)) [0, 1, 2, 3, 4, 5, 6] rfl rfl ?_
            refine v_roI1 X (rn_S X k_J13_bitCount_95d88 ml_X6_144 dX6_mean_58 (c_J13_bitCount_95d88 l E (kpN cy Fs Ft t vp) (kpN_lt hd _ _ _ _)) rfl (by decide) (by decide) (by omega) (by omega) (Nat.le_of_ble_eq_true rfl)) [] rfl rfl ?_
            refine v_i2l X dX6_mean_61 (v := lN (cnt (fun k => (kpN cy Fs Ft t vp).testBit k) 64)) (nI_l (Nat.lt_of_le_of_lt (pop64_le _) (by decide))) ?_
            refine v_lmul X dX6_mean_62 ?_
            refine v_eql (x' := lN ((rwN (cy 2) vp (bdN ink mn m 0)) * (cnt (fun k => (kpN cy Fs Ft t vp).testBit k) 64))) (lN_mul _ _) ?_
            refine v_ladd X dX6_mean_63 ?_
            refine v_eql (x' := lN (vu + ((rwN (cy 2) vp (bdN ink mn m 0)) * (cnt (fun k => (kpN cy Fs Ft t vp).testBit k) 64)))) (lN_add _ _) ?_
            refine v_lstore X dX6_mean_64 (by decide) (lv' := [(4, .long (lN (vu + ((rwN (cy 2) vp (bdN ink mn m 0)) * (cnt (fun k => (kpN cy Fs Ft t vp).testBit k) 64))))), (0, .ref x), (1, .int m), (2, .int (nI (b).toNat)), (3, .int (nI (bdN ink mn m 0))), (6, .int (nI vp))]) rfl ?_
            refine v_iinc X dX6_mean_66 5 rfl (v := nI (vp + 1)) (nI_inc vp) (by decide) (lv' := [(6, .int (nI (vp + 1))), (4, .long (lN (vu + ((rwN (cy 2) vp (bdN ink mn m 0)) * (cnt (fun k => (kpN cy Fs Ft t vp).testBit k) 64))))), (0, .ref x), (1, .int m), (2, .int (nI (b).toNat)), (3, .int (nI (bdN ink mn m 0)))]) rfl ?_
            refine v_goto X dX6_mean_69 (tgt := 28) (by decide) ?_
            refine V.lvs [2, 3, 4, 5, 1, 0] rfl ?_
            exact ih28 (vp + 1) (vu + ((rwN (cy 2) vp (bdN ink mn m 0)) * (cnt (fun k => (kpN cy Fs Ft t vp).testBit k) 64))) (⟨by omega, by rw [hb, fb_sm]; rw [h40, Bool.and_true]; rfl⟩) (by omega)
    refine V.lvs [3, 4, 5, 2, 1, 0] rfl ?_
    exact L28 _ 0 0 (⟨by omega, rfl⟩) (Nat.lt_succ_self _)
  · refine v_aload_n X dX6_mean_8 rfl 0 rfl ?_
    refine v_iconst X dX6_mean_9 (v := nI 1) (by decide) ?_
    refine v_wrI1 X (rn_V X k_X6_refused ml_X6_74 dX6_mean_10 (c_X6_refused l E x xa g tr fl pl 1 ) rfl 0 rfl rfl (by decide) (by decide) (by omega) (by omega) (Nat.le_of_ble_eq_true rfl)) [0] rfl rfl (ws' := [ob x 6 [.ref (xa 0), .ref g, .ref (xa 2), .ref (xa 3), .ref (xa 4), .ref (xa 5), .ref (xa 6), .ref (xa 7), .int (nI 1), .int (nI fl), .int pl], ob g 0 [.int (nI (cy 0)), .int (nI (cy 1)), .int (nI (cy 2)), .int (nI (cy 3)), .int (nI (cy 4)), .int (nI (cy 5)), .int (nI (cy 6)), .int (nI (cy 7)), .ref (ca 0), .ref (ca 1), .ref (ca 2), .ref (ca 3), .ref (ca 4), .ref (ca 5), .ref (ca 6), .ref (ca 7), .ref (ca 8), .ref (ca 9), .ref (ca 10), .ref (ca 11)], aM E (ca 5) 8 Fs, aM E (ca 6) 8 Ft, ob (xa 3) 2 [.ref hi, .ref hm, .int (nI t), .int (nI dd)], aN E hi 8 ink, aI E hm 8 mn]) rfl rfl ?_
    refine v_i2l X dX6_mean_13 rfl ?_
    exact v_lret X Y dX6_mean_14 (wrL_of (by rw [if_neg (of_decide_eq_false h5)]) (by rw [if_neg (of_decide_eq_false h5)]; rfl)) (by omega) (by omega)
set_option maxRecDepth 100000 in
set_option maxHeartbeats 4000000 in
theorem c_X6_mayOdds (l : Launch) (E : Et) (x : Nat) (xa : Nat → Nat) (g : Nat) (tr : Nat) (fl : Nat) (pl : Int32) (cy : Nat → Nat) (ca : Nat → Nat) (Fs : Nat → Nat) (Ft : Nat → Nat) (hi : Nat) (hm : Nat) (t : Nat) (dd : Nat) (ink : Nat → Nat) (mn : Nat → Int32) (m : Int32) (s : Int32) (b : Bool) (hd : cy 4 ≤ 6) (hcl : cy 5 ≤ 8) (hmen : cy 3 ≤ 4) (ht : t < 256) (hink : ∀ c, ink c ≤ 40) (hr : cy 2 ≤ 100) : Ct l E yX6_mayOdds cX6_mayOdds 7 (some .long) 6 0 0 [.ref x, .int m, .int s, .int (nI (b).toNat)] [ob x 6 [.ref (xa 0), .ref g, .ref (xa 2), .ref (xa 3), .ref (xa 4), .ref (xa 5), .ref (xa 6), .ref (xa 7), .int (nI tr), .int (nI fl), .int pl], ob g 0 [.int (nI (cy 0)), .int (nI (cy 1)), .int (nI (cy 2)), .int (nI (cy 3)), .int (nI (cy 4)), .int (nI (cy 5)), .int (nI (cy 6)), .int (nI (cy 7)), .ref (ca 0), .ref (ca 1), .ref (ca 2), .ref (ca 3), .ref (ca 4), .ref (ca 5), .ref (ca 6), .ref (ca 7), .ref (ca 8), .ref (ca 9), .ref (ca 10), .ref (ca 11)], aM E (ca 5) 8 Fs, aM E (ca 6) 8 Ft, ob (xa 3) 2 [.ref hi, .ref hm, .int (nI t), .int (nI dd)], aN E hi 8 ink, aI E hm 8 mn] (wrL [ob x 6 [.ref (xa 0), .ref g, .ref (xa 2), .ref (xa 3), .ref (xa 4), .ref (xa 5), .ref (xa 6), .ref (xa 7), .int (nI (if okM m (cy 3) then (if okM s (2 ^ cy 4) then 0 else 2) else 1)), .int (nI fl), .int pl], ob g 0 [.int (nI (cy 0)), .int (nI (cy 1)), .int (nI (cy 2)), .int (nI (cy 3)), .int (nI (cy 4)), .int (nI (cy 5)), .int (nI (cy 6)), .int (nI (cy 7)), .ref (ca 0), .ref (ca 1), .ref (ca 2), .ref (ca 3), .ref (ca 4), .ref (ca 5), .ref (ca 6), .ref (ca 7), .ref (ca 8), .ref (ca 9), .ref (ca 10), .ref (ca 11)], aM E (ca 5) 8 Fs, aM E (ca 6) 8 Ft, ob (xa 3) 2 [.ref hi, .ref hm, .int (nI t), .int (nI dd)], aN E hi 8 ink, aI E hm 8 mn] (if okM m (cy 3) then (if okM s (2 ^ cy 4) then lN (lowT (cy 2 ^ brkN cy Fs Ft t (bdN ink mn m 0) (tn s)) (100 ^ brkN cy Fs Ft t (bdN ink mn m 0) (tn s)) b) else (-1)) else (-1))) := by
  refine Ct.intro (by decide +kernel) (Nat.le_of_ble_eq_true rfl) (lv := [(0, .ref x), (1, .int m), (2, .int s), (3, .int (nI (b).toNat))]) rfl ?_
  intro Z X Y
  have hb256 : bdN ink mn m 0 < 256 := bdN_lt _ _ _ _
  refine v_aload_n X dX6_mayOdds_0 rfl 0 rfl ?_
  refine v_iload_n X dX6_mayOdds_1 rfl 1 rfl ?_
  refine v_roI1 X (rn_V X k_X6_isMan ml_X6_117 dX6_mayOdds_2 (c_X6_isMan l E x xa g tr fl pl cy ca m ) rfl 0 rfl rfl (by decide) (by decide) (by omega) (by omega) (Nat.le_of_ble_eq_true rfl)) [0, 1] rfl rfl ?_
  refine v_ifB_ne X dX6_mayOdds_5 (tgt := 15) (by decide) (fun h5 => ?_) (fun h5 => ?_)
  · refine v_aload_n X dX6_mayOdds_15 rfl 0 rfl ?_
    refine v_iload_n X dX6_mayOdds_16 rfl 2 rfl ?_
    refine v_roI1 X (rn_V X k_X6_isSet ml_X6_130 dX6_mayOdds_17 (c_X6_isSet l E x xa g tr fl pl cy ca s (by first | assumption | omega)) rfl 0 rfl rfl (by decide) (by decide) (by omega) (by omega) (Nat.le_of_ble_eq_true rfl)) [0, 1] rfl rfl ?_
    refine v_ifB_ne X dX6_mayOdds_20 (tgt := 30) (by decide) (fun h20 => ?_) (fun h20 => ?_)
    · obtain ⟨ks, hks, rfl⟩ := okM_nat (of_decide_eq_true h20) (pow6 hd)
      refine v_aload_n X dX6_mayOdds_30 rfl 0 rfl ?_
      refine v_iload_n X dX6_mayOdds_31 rfl 1 rfl ?_
      refine v_iconst X dX6_mayOdds_32 (v := nI 0) (by decide) ?_
      refine v_roI1 X (rn_V X k_X6_bound ml_X6_123 dX6_mayOdds_33 (c_X6_bound l E x xa g tr fl pl hi hm t dd ink mn m 0 (by first | assumption | omega) (by omega)) rfl 0 rfl rfl (by decide) (by decide) (by omega) (by omega) (Nat.le_of_ble_eq_true rfl)) [0, 4, 5, 6] rfl rfl ?_
      refine v_istore X dX6_mayOdds_36 (by decide) (lv' := [(4, .int (nI (bdN ink mn m 0))), (0, .ref x), (1, .int m), (2, .int (nI ks)), (3, .int (nI (b).toNat))]) rfl ?_
      refine v_iconst X dX6_mayOdds_38 (v := nI 0) (by decide) ?_
      refine v_istore X dX6_mayOdds_39 (by decide) (lv' := [(5, .int (nI 0)), (4, .int (nI (bdN ink mn m 0))), (0, .ref x), (1, .int m), (2, .int (nI ks)), (3, .int (nI (b).toNat))]) rfl ?_
      refine v_iconst X dX6_mayOdds_41 (v := nI 0) (by decide) ?_
      refine v_istore X dX6_mayOdds_42 (by decide) (lv' := [(6, .int (nI 0)), (5, .int (nI 0)), (4, .int (nI (bdN ink mn m 0))), (0, .ref x), (1, .int m), (2, .int (nI ks)), (3, .int (nI (b).toNat))]) rfl ?_
      have L44 : ∀ (j44 : Nat) (vc : Nat) (vn : Nat), (vc ≤ cy 5 ∧ vn = cnt (fun c => (bdN ink mn m 0).testBit c && !(kpN cy Fs Ft t (2 ^ c)).testBit ks) vc) → cy 5 - vc < j44 → V E Z 44 [(0, .ref x), (1, .int m), (2, .int (nI ks)), (3, .int (nI (b).toNat)), (4, .int (nI (bdN ink mn m 0))), (5, .int (nI vn)), (6, .int (nI vc))] [] [ob x 6 [.ref (xa 0), .ref g, .ref (xa 2), .ref (xa 3), .ref (xa 4), .ref (xa 5), .ref (xa 6), .ref (xa 7), .int (nI tr), .int (nI fl), .int pl], ob g 0 [.int (nI (cy 0)), .int (nI (cy 1)), .int (nI (cy 2)), .int (nI (cy 3)), .int (nI (cy 4)), .int (nI (cy 5)), .int (nI (cy 6)), .int (nI (cy 7)), .ref (ca 0), .ref (ca 1), .ref (ca 2), .ref (ca 3), .ref (ca 4), .ref (ca 5), .ref (ca 6), .ref (ca 7), .ref (ca 8), .ref (ca 9), .ref (ca 10), .ref (ca 11)], aM E (ca 5) 8 Fs, aM E (ca 6) 8 Ft, ob (xa 3) 2 [.ref hi, .ref hm, .int (nI t), .int (nI dd)], aN E hi 8 ink, aI E hm 8 mn] 0 0 := by
        intro j44
        induction j44 with
        | zero => intro vc vn hI hM; exact absurd hM (Nat.not_lt_zero _)
        | succ j44 ih44 =>
          intro vc vn hI44 hM44
          obtain ⟨hc, hb⟩ := id hI44
          refine v_iload X dX6_mayOdds_44 6 rfl ?_
          refine v_aload_n X dX6_mayOdds_46 rfl 0 rfl ?_
          refine v_get X kcX6 fl_X6_19 dX6_mayOdds_47 0 rfl rfl ?_
          refine v_getN X kcX0 fl_X6_179 dX6_mayOdds_50 1 rfl rfl ?_
          refine v_icmpN_ge X dX6_mayOdds_53 (tgt := 91) (by decide) (by omega) (by omega) (fun h53 => ?_) (fun h53 => ?_)
          · refine v_aload_n X dX6_mayOdds_91 rfl 0 rfl ?_
            refine v_iconst X dX6_mayOdds_92 (v := nI 0) (by decide) ?_
            refine v_put X kcX6 fl_X6_57 dX6_mayOdds_93 0 rfl (ws' := [ob x 6 [.ref (xa 0), .ref g, .ref (xa 2), .ref (xa 3), .ref (xa 4), .ref (xa 5), .ref (xa 6), .ref (xa 7), .int (nI 0), .int (nI fl), .int pl], ob g 0 [.int (nI (cy 0)), .int (nI (cy 1)), .int (nI (cy 2)), .int (nI (cy 3)), .int (nI (cy 4)), .int (nI (cy 5)), .int (nI (cy 6)), .int (nI (cy 7)), .ref (ca 0), .ref (ca 1), .ref (ca 2), .ref (ca 3), .ref (ca 4), .ref (ca 5), .ref (ca 6), .ref (ca 7), .ref (ca 8), .ref (ca 9), .ref (ca 10), .ref (ca 11)], aM E (ca 5) 8 Fs, aM E (ca 6) 8 Ft, ob (xa 3) 2 [.ref hi, .ref hm, .int (nI t), .int (nI dd)], aN E hi 8 ink, aI E hm 8 mn]) rfl rfl ?_
            refine v_aload_n X dX6_mayOdds_96 rfl 0 rfl ?_
            refine v_get X kcX6 fl_X6_19 dX6_mayOdds_97 0 rfl rfl ?_
            refine v_getN X kcX0 fl_X6_246 dX6_mayOdds_100 1 rfl rfl ?_
            refine v_iload X dX6_mayOdds_103 5 rfl ?_
            refine v_roL1 X (rn_S X k_X6_power ml_X6_249 dX6_mayOdds_105 (c_X6_power l E (cy 2) vn (by omega) (by have := cnt_le (fun c => (bdN ink mn m 0).testBit c && !(kpN cy Fs Ft t (2 ^ c)).testBit ks) vc; omega)) rfl (by decide) (by decide) (by omega) (by omega) (Nat.le_of_ble_eq_true rfl)) [] rfl rfl ?_
            refine v_bipush X dX6_mayOdds_108 (v := nI 100) (by decide) ?_
            refine v_iload X dX6_mayOdds_110 5 rfl ?_
            refine v_roL1 X (rn_S X k_X6_power ml_X6_249 dX6_mayOdds_112 (c_X6_power l E 100 vn (by omega) (by have := cnt_le (fun c => (bdN ink mn m 0).testBit c && !(kpN cy Fs Ft t (2 ^ c)).testBit ks) vc; omega)) rfl (by decide) (by decide) (by omega) (by omega) (Nat.le_of_ble_eq_true rfl)) [] rfl rfl ?_
            refine v_iload_n X dX6_mayOdds_115 rfl 3 rfl ?_
            refine v_roL1 X (rn_S X k_X6_lowestTerms ml_X6_210 dX6_mayOdds_116 (c_X6_lowestTerms l E ((cy 2) ^ vn) (100 ^ vn) b (powr hr (by have := cnt_le (fun c => (bdN ink mn m 0).testBit c && !(kpN cy Fs Ft t (2 ^ c)).testBit ks) vc; omega)) (pow100 (by have := cnt_le (fun c => (bdN ink mn m 0).testBit c && !(kpN cy Fs Ft t (2 ^ c)).testBit ks) vc; omega))) rfl (by decide) (by decide) (by omega) (by omega) (Nat.le_of_ble_eq_true rfl)) [] rfl rfl ?_
            exact v_lret X Y dX6_mayOdds_119 (wrL_of (by rw [if_pos (of_decide_eq_true h5), if_pos (of_decide_eq_true h20)]) (by rw [if_pos (of_decide_eq_true h5), if_pos (of_decide_eq_true h20), tn_n (Nat.lt_trans hks (pow6 hd)), hb, show vc = cy 5 by omega]; rfl)) (by omega) (by omega)
          · refine v_iload X dX6_mayOdds_56 4 rfl ?_
            refine v_i2l X dX6_mayOdds_58 (v := lN (bdN ink mn m 0)) (nI_l (by omega)) ?_
            refine v_iload X dX6_mayOdds_59 6 rfl ?_
            refine v_roI1 X (rn_S X k_X6_isIn ml_X6_137 dX6_mayOdds_61 (c_X6_isIn l E (bdN ink mn m 0) vc (Nat.lt_trans hb256 (by decide)) (by omega)) rfl (by decide) (by decide) (by omega) (by omega) (Nat.le_of_ble_eq_true rfl)) [] rfl rfl ?_
            refine v_ifB_eq X dX6_mayOdds_64 (tgt := 85) (by decide) (fun h64 => ?_) (fun h64 => ?_)
            · refine v_iinc X dX6_mayOdds_85 6 rfl (v := nI (vc + 1)) (nI_inc vc) (by decide) (lv' := [(6, .int (nI (vc + 1))), (0, .ref x), (1, .int m), (2, .int (nI ks)), (3, .int (nI (b).toNat)), (4, .int (nI (bdN ink mn m 0))), (5, .int (nI vn))]) rfl ?_
              refine v_goto X dX6_mayOdds_88 (tgt := 44) (by decide) ?_
              refine V.lvs [1, 2, 3, 4, 5, 6, 0] rfl ?_
              exact ih44 (vc + 1) vn (⟨by omega, by rw [hb, cnt, h64]; rfl⟩) (by omega)
            · refine v_aload_n X dX6_mayOdds_67 rfl 0 rfl ?_
              refine v_iconst X dX6_mayOdds_68 (v := nI 1) (by decide) ?_
              refine v_iload X dX6_mayOdds_69 6 rfl ?_
              refine v_ishl X dX6_mayOdds_71 ?_
              refine v_eqi (x' := nI (2 ^ vc)) (nI_shl1 (by omega)) ?_
              refine v_roL1 X (rn_V X k_X6_setsUnder ml_X6_133 dX6_mayOdds_72 (c_X6_setsUnder l E x xa g tr fl pl cy ca Fs Ft hi hm t dd ink mn (2 ^ vc) (by first | assumption | omega) (by first | assumption | omega) (by first | assumption | omega) (Nat.pow_lt_pow_right (n := 31) (by decide) (by omega))) rfl 0 rfl rfl (by decide) (by decide) (by omega) (by omega) (Nat.le_of_ble_eq_true rfl)) [0, 1, 2, 3, 4, 5, 6] rfl rfl ?_
              refine v_iload_n X dX6_mayOdds_75 rfl 2 rfl ?_
              refine v_roI1 X (rn_S X k_X6_isIn ml_X6_137 dX6_mayOdds_76 (c_X6_isIn l E (kpN cy Fs Ft t (2 ^ vc)) ks (kpN_lt hd _ _ _ _) (Nat.lt_of_lt_of_le hks (pow64 hd))) rfl (by decide) (by decide) (by omega) (by omega) (Nat.le_of_ble_eq_true rfl)) [] rfl rfl ?_
              refine v_ifB_ne X dX6_mayOdds_79 (tgt := 85) (by decide) (fun h79 => ?_) (fun h79 => ?_)
              · refine v_iinc X dX6_mayOdds_85 6 rfl (v := nI (vc + 1)) (nI_inc vc) (by decide) (lv' := [(6, .int (nI (vc + 1))), (0, .ref x), (1, .int m), (2, .int (nI ks)), (3, .int (nI (b).toNat)), (4, .int (nI (bdN ink mn m 0))), (5, .int (nI vn))]) rfl ?_
                refine v_goto X dX6_mayOdds_88 (tgt := 44) (by decide) ?_
                refine V.lvs [1, 2, 3, 4, 5, 6, 0] rfl ?_
                exact ih44 (vc + 1) vn (⟨by omega, by rw [hb, cnt, h64, h79]; rfl⟩) (by omega)
              · refine v_iinc X dX6_mayOdds_82 5 rfl (v := nI (vn + 1)) (nI_inc vn) (by decide) (lv' := [(5, .int (nI (vn + 1))), (0, .ref x), (1, .int m), (2, .int (nI ks)), (3, .int (nI (b).toNat)), (4, .int (nI (bdN ink mn m 0))), (6, .int (nI vc))]) rfl ?_
                refine v_iinc X dX6_mayOdds_85 6 rfl (v := nI (vc + 1)) (nI_inc vc) (by decide) (lv' := [(6, .int (nI (vc + 1))), (5, .int (nI (vn + 1))), (0, .ref x), (1, .int m), (2, .int (nI ks)), (3, .int (nI (b).toNat)), (4, .int (nI (bdN ink mn m 0)))]) rfl ?_
                refine v_goto X dX6_mayOdds_88 (tgt := 44) (by decide) ?_
                refine V.lvs [2, 3, 4, 5, 6, 1, 0] rfl ?_
                exact ih44 (vc + 1) (vn + 1) (⟨by omega, by rw [hb, cnt, h64, h79]; rfl⟩) (by omega)
      refine V.lvs [3, 4, 5, 6, 2, 1, 0] rfl ?_
      exact L44 _ 0 0 (⟨by omega, rfl⟩) (Nat.lt_succ_self _)
    · refine v_aload_n X dX6_mayOdds_23 rfl 0 rfl ?_
      refine v_iconst X dX6_mayOdds_24 (v := nI 2) (by decide) ?_
      refine v_wrI1 X (rn_V X k_X6_refused ml_X6_74 dX6_mayOdds_25 (c_X6_refused l E x xa g tr fl pl 2 ) rfl 0 rfl rfl (by decide) (by decide) (by omega) (by omega) (Nat.le_of_ble_eq_true rfl)) [0] rfl rfl (ws' := [ob x 6 [.ref (xa 0), .ref g, .ref (xa 2), .ref (xa 3), .ref (xa 4), .ref (xa 5), .ref (xa 6), .ref (xa 7), .int (nI 2), .int (nI fl), .int pl], ob g 0 [.int (nI (cy 0)), .int (nI (cy 1)), .int (nI (cy 2)), .int (nI (cy 3)), .int (nI (cy 4)), .int (nI (cy 5)), .int (nI (cy 6)), .int (nI (cy 7)), .ref (ca 0), .ref (ca 1), .ref (ca 2), .ref (ca 3), .ref (ca 4), .ref (ca 5), .ref (ca 6), .ref (ca 7), .ref (ca 8), .ref (ca 9), .ref (ca 10), .ref (ca 11)], aM E (ca 5) 8 Fs, aM E (ca 6) 8 Ft, ob (xa 3) 2 [.ref hi, .ref hm, .int (nI t), .int (nI dd)], aN E hi 8 ink, aI E hm 8 mn]) rfl rfl ?_
      refine v_i2l X dX6_mayOdds_28 rfl ?_
      exact v_lret X Y dX6_mayOdds_29 (wrL_of (by rw [if_pos (of_decide_eq_true h5), if_neg (of_decide_eq_false h20)]) (by rw [if_pos (of_decide_eq_true h5), if_neg (of_decide_eq_false h20)]; rfl)) (by omega) (by omega)
  · refine v_aload_n X dX6_mayOdds_8 rfl 0 rfl ?_
    refine v_iconst X dX6_mayOdds_9 (v := nI 1) (by decide) ?_
    refine v_wrI1 X (rn_V X k_X6_refused ml_X6_74 dX6_mayOdds_10 (c_X6_refused l E x xa g tr fl pl 1 ) rfl 0 rfl rfl (by decide) (by decide) (by omega) (by omega) (Nat.le_of_ble_eq_true rfl)) [0] rfl rfl (ws' := [ob x 6 [.ref (xa 0), .ref g, .ref (xa 2), .ref (xa 3), .ref (xa 4), .ref (xa 5), .ref (xa 6), .ref (xa 7), .int (nI 1), .int (nI fl), .int pl], ob g 0 [.int (nI (cy 0)), .int (nI (cy 1)), .int (nI (cy 2)), .int (nI (cy 3)), .int (nI (cy 4)), .int (nI (cy 5)), .int (nI (cy 6)), .int (nI (cy 7)), .ref (ca 0), .ref (ca 1), .ref (ca 2), .ref (ca 3), .ref (ca 4), .ref (ca 5), .ref (ca 6), .ref (ca 7), .ref (ca 8), .ref (ca 9), .ref (ca 10), .ref (ca 11)], aM E (ca 5) 8 Fs, aM E (ca 6) 8 Ft, ob (xa 3) 2 [.ref hi, .ref hm, .int (nI t), .int (nI dd)], aN E hi 8 ink, aI E hm 8 mn]) rfl rfl ?_
    refine v_i2l X dX6_mayOdds_13 rfl ?_
    exact v_lret X Y dX6_mayOdds_14 (wrL_of (by rw [if_neg (of_decide_eq_false h5)]) (by rw [if_neg (of_decide_eq_false h5)]; rfl)) (by omega) (by omega)
