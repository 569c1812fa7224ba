theorem st_L_led : okIn (.static yL_led) := ⟨tm4 (List.mem_of_getElem? (i := 232) (by decide +kernel)), by decide +kernel⟩
theorem cw_L_led : okIn (.codeWith yL_led cL_led 4 (some .int) [(0, 9, 12, 13)]) := ⟨tm4 (List.mem_of_getElem? (i := 233) (by decide +kernel)), by decide +kernel⟩
theorem kn_L_led : kN yL_led 3 := ⟨⟨by decide +kernel, by decide +kernel⟩, by decide +kernel⟩
theorem in_L : okIn (.initialized RL) := ⟨tm1 (List.mem_of_getElem? (i := 0) (by decide +kernel)), by decide +kernel⟩
set_option maxRecDepth 100000 in
set_option maxHeartbeats 2000000 in
theorem cs_led (l : Launch) (E : Et) (Z : Zt) (b L oa x k i kc ns_ : Nat) (xs : Nat → Int32) (of_ : Nat → Int64) (w6 w8 : va_W) (X : Cx E l 40 601024 7293034 Z cL_law 7 yL_law (some .boolean)) (xv : Xv E (zs Z) (zs Z).heap) (hl : l.stackTraces = false) (S : SC Z b L xs) (hL : L ≤ 3072) (hi : i + 6 ≤ L) (hk : kc + 20 ≤ 601024) (hn : ns_ + 200 ≤ 7293034) (hv : INV E x k w6 w8) (ih : ∀ (v6 v8 : va_W) (o9 : Nat → Int64), INV E x k v6 v8 → V E Z 1906 [(4, .int (nI i)), (3, .ref oa), (2, .ref k), (1, .ref x), (0, .ref b)] [] (v6 ++ (v8 ++ [aL E oa 1 o9])) (kc + 20) (ns_ + 200)) : V E Z 1812 [(4, .int (nI i)), (3, .ref oa), (2, .ref k), (1, .ref x), (0, .ref b)] [] (w6 ++ (w8 ++ [aL E oa 1 of_])) kc ns_ := by
  obtain ⟨j6, fs6, hj6⟩ := iv6 hv
  obtain ⟨j8, fs8, hj8⟩ := iv8 hv
  obtain ⟨kt, w6', w8', hI1, hI2, h1, h2, h3, h4⟩ := op_led l E x k hl (xs (i + 1)) w6 w8 hv
  obtain ⟨j9, fs9, hj9⟩ := iv8 hI1
  refine v_aload_n X dL_law_1812 rfl 3 rfl ?_
  refine v_aload_n X dL_law_1813 rfl 4 rfl ?_
  refine v_iload X dL_law_1814 0 rfl ?_
  refine v_iconst X dL_law_1816 (v := nI 1) (by decide) ?_
  refine v_iadd X dL_law_1817 ?_
  refine v_eqi (x' := nI (i + 1)) (nI_add _ _) ?_
  refine v_sld X S dL_law_1818 (by omega) (by omega) ?_
  refine v_aload_n X dL_law_1819 rfl 1 rfl ?_
  refine V_perm (ws' := (w6 ++ [aL E oa 1 of_]) ++ w8) (by rw [List.append_assoc]; exact List.Perm.append_left _ List.perm_append_comm) ?_
  refine v_nwP X (rn_SW (As := [.ref x, .int (xs (i + 1)), .ref oa]) X xv st_L_led cw_L_led in_L kn_L_led ml_L_236 dL_law_1820 (c_L_led l E x oa (xs (i + 1)) kt of_ w6 w6' j6 fs6 hj6 h1 h2) (rest := []) rfl (by decide) (by decide) (by omega) (by omega) (Nat.le_of_ble_eq_true rfl)) (wr := w8) rfl (fun r w hp => ?_)
  obtain ⟨o9, rfl, hw⟩ := hp
  refine V.cast (st' := [.int (nI (if kt = -1 then 1 else 0))]) rfl rfl rfl ?_
  have key : ∀ (kc9 : Nat) (v6 : va_W), INV E x k v6 w8' → kc9 = (if kt = -1 then 1 else 0) → (¬ kt = -1 → o9 0 = kt.toInt64) → V E Z 1823 [(4, .int (nI i)), (3, .ref oa), (2, .ref k), (1, .ref x), (0, .ref b)] [.int (nI kc9)] (w8 ++ ([aL E oa 1 o9] ++ v6)) (kc + 1) (ns_ + 6) := by
    intro kc9 v6 hI hkc ho
    refine v_istore X dL_law_1823 (by decide) (lv' := [(5, .int (nI kc9)), (4, .int (nI i)), (3, .ref oa), (2, .ref k), (1, .ref x), (0, .ref b)]) rfl ?_
    refine v_aload_n X dL_law_1825 rfl 3 rfl ?_
    refine v_aload_n X dL_law_1826 rfl 5 rfl ?_
    refine v_iload X dL_law_1827 1 rfl ?_
    refine v_iconst X dL_law_1829 (v := nI 1) (by decide) ?_
    refine v_iadd X dL_law_1830 ?_
    refine v_eqi (x' := nI (i + 1)) (nI_add _ _) ?_
    refine v_sld X S dL_law_1831 (by omega) (by omega) ?_
    refine v_nwP X (rn_V X k_X8_led ml_L_241 dL_law_1832 h3 rfl j8 hj8 kcX8.1 (by decide) (by decide) (by omega) (by omega) (Nat.le_of_ble_eq_true rfl)) (wr := [aL E oa 1 o9] ++ v6) rfl (fun r w hp => ?_)
    obtain ⟨rfl, rfl⟩ := hp
    generalize hbb : (if kt = -1 then 0 else kt) = bb
    refine V.cast (st' := [.int bb]) rfl rfl rfl ?_
    refine v_istore X dL_law_1835 (by decide) (lv' := [(6, .int bb), (5, .int (nI kc9)), (4, .int (nI i)), (3, .ref oa), (2, .ref k), (1, .ref x), (0, .ref b)]) rfl ?_
    refine v_aload_n X dL_law_1837 rfl 4 rfl ?_
    refine V_perm List.perm_append_comm ?_
    refine v_nwP X (rn_V X k_X8_thrown ml_L_242 dL_law_1838 h4 rfl j9 hj9 kcX8.1 (by decide) (by decide) (by omega) (by omega) (Nat.le_of_ble_eq_true rfl)) (wr := [aL E oa 1 o9] ++ v6) rfl (fun r w hp => ?_)
    obtain ⟨rfl, rfl⟩ := hp
    refine V.cast (st' := [.int (nI kc9)]) rfl (by rw [hkc]; rfl) rfl ?_
    refine v_iload X dL_law_1841 1 rfl ?_
    refine v_icmp_eq X dL_law_1843 (tgt := 1848) (by decide) (fun _ => ?_) (fun h9 => absurd rfl h9)
    refine v_iload X dL_law_1848 1 rfl ?_
    have fin : V E Z 1865 [(6, .int bb), (5, .int (nI kc9)), (4, .int (nI i)), (3, .ref oa), (2, .ref k), (1, .ref x), (0, .ref b)] [] (([aL E oa 1 o9] ++ v6) ++ w) (kc + 1) (ns_ + 6) := by
      refine v_goto X dL_law_1865 (tgt := 1906) (by decide) ?_
      refine V.lvs [2, 3, 4, 5, 6] rfl ?_
      refine V_perm (ws' := v6 ++ (w ++ [aL E oa 1 o9])) (by rw [List.append_assoc, ← List.append_assoc v6]; exact List.perm_append_comm) ?_
      exact V_wid (by omega) (by omega) (ih v6 w o9 hI)
    refine v_if_ne X dL_law_1850 (tgt := 1865) (by decide) (fun _ => fin) (fun h0 => ?_)
    have hkt : ¬ kt = -1 := by
      intro hk1
      rw [hkc, if_pos hk1] at h0
      exact absurd h0 (by decide)
    rw [if_neg hkt] at hbb
    refine v_aload_n X dL_law_1853 rfl 3 rfl ?_
    refine v_iconst X dL_law_1854 (v := nI 0) (by decide) ?_
    refine v_lald X dL_law_1855 0 rfl (i := 0) (by decide) (by decide) ?_
    refine v_iload X dL_law_1856 0 rfl ?_
    refine v_i2l X dL_law_1858 (v := kt.toInt64) (by rw [← hbb]) ?_
    refine V.cast (st' := [.long kt.toInt64, .long kt.toInt64]) rfl (by rw [ho hkt]) rfl ?_
    refine v_lcmp X dL_law_1859 ?_
    refine v_ifL_eq X dL_law_1860 (tgt := 1865) (by decide) (fun _ => fin) (fun h9 => absurd rfl h9)
  rcases hw with ⟨hk1, rfl⟩ | ⟨hk1, ho, rfl⟩
  · exact key _ w6 hI1 rfl (fun h => absurd hk1 h)
  · exact key _ w6' hI2 rfl (fun _ => ho)
