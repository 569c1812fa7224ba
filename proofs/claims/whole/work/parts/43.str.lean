set_option maxRecDepth 100000 in
set_option maxHeartbeats 4000000 in
theorem c_J0_coder_7d493 (l : Launch) (E : Et) (i : Nat) (hi : i < 20) : Ct l E yJ0_coder_7d493 cJ0_coder_7d493 1 (some .byte) 0 0 0 [.ref (eK E i)] [] (roI [] (nI 0)) := by
  refine Ct.intro (by decide +kernel) (Nat.le_of_ble_eq_true rfl) (lv := [(0, .ref (eK E i))]) rfl ?_
  intro Z X Y
  refine v_getCS X fl_J0_38 dJ0_coder_7d493_0 ?_
  refine v_eqi (x' := nI 1) rfl ?_
  refine v_ifN_eq X dJ0_coder_7d493_3 (tgt := 13) (by decide) (by decide) (fun h3 => ?_) (fun h3 => ?_)
  · exfalso; omega
  · refine v_aload_n X dJ0_coder_7d493_6 rfl 0 rfl ?_
    refine v_stC X hi fl_J0_15 dJ0_coder_7d493_7 ?_
    refine v_eqi (x' := nI 0) rfl ?_
    refine v_goto X dJ0_coder_7d493_10 (tgt := 14) (by decide) ?_
    exact v_nret X Y dJ0_coder_7d493_14 (by decide) (roI_of rfl) (by omega) (by omega)
set_option maxRecDepth 100000 in
set_option maxHeartbeats 4000000 in
theorem c_J0_isLatin1_aae02 (l : Launch) (E : Et) (i : Nat) (hi : i < 20) : Ct l E yJ0_isLatin1_aae02 cJ0_isLatin1_aae02 1 (some .boolean) 0 0 0 [.ref (eK E i)] [] (roI [] (nI 1)) := by
  refine Ct.intro (by decide +kernel) (Nat.le_of_ble_eq_true rfl) (lv := [(0, .ref (eK E i))]) rfl ?_
  intro Z X Y
  refine v_getCS X fl_J0_38 dJ0_isLatin1_aae02_0 ?_
  refine v_eqi (x' := nI 1) rfl ?_
  refine v_ifN_eq X dJ0_isLatin1_aae02_3 (tgt := 17) (by decide) (by decide) (fun h3 => ?_) (fun h3 => ?_)
  · exfalso; omega
  · refine v_aload_n X dJ0_isLatin1_aae02_6 rfl 0 rfl ?_
    refine v_stC X hi fl_J0_15 dJ0_isLatin1_aae02_7 ?_
    refine v_eqi (x' := nI 0) rfl ?_
    refine v_ifN_ne X dJ0_isLatin1_aae02_10 (tgt := 17) (by decide) (by decide) (fun h10 => ?_) (fun h10 => ?_)
    · exfalso; omega
    · refine v_iconst X dJ0_isLatin1_aae02_13 (v := nI 1) (by decide) ?_
      refine v_goto X dJ0_isLatin1_aae02_14 (tgt := 18) (by decide) ?_
      exact v_zret X Y dJ0_isLatin1_aae02_18 (by decide) (roI_of rfl) (by omega) (by omega)
set_option maxRecDepth 100000 in
set_option maxHeartbeats 4000000 in
theorem c_J0_length_8abf5 (l : Launch) (E : Et) (i : Nat) (hi : i < 20) : Ct l E yJ0_length_8abf5 cJ0_length_8abf5 1 (some .int) 1 0 0 [.ref (eK E i)] [] (roI [] (nI ((st_tx.getD i []).length))) := by
  refine Ct.intro (by decide +kernel) (Nat.le_of_ble_eq_true rfl) (lv := [(0, .ref (eK E i))]) rfl ?_
  intro Z X Y
  refine v_aload_n X dJ0_length_8abf5_0 rfl 0 rfl ?_
  refine v_stV X hi fl_J0_9 dJ0_length_8abf5_1 ?_
  refine v_stL X hi dJ0_length_8abf5_4 ?_
  refine v_aload_n X dJ0_length_8abf5_5 rfl 0 rfl ?_
  refine v_roI1 X (rn_VO X k_J0_coder_7d493 ml_J0_335 dJ0_length_8abf5_6 (c_J0_coder_7d493 l E i (by first | assumption | omega)) rfl hi (by decide) (by decide) (by omega) (by omega) (Nat.le_of_ble_eq_true rfl)) [] rfl rfl ?_
  refine v_ishr X dJ0_length_8abf5_9 ?_
  refine v_eqi (x' := nI (((st_tx.getD i []).length) / 2 ^ 0)) (nI_shr (Nat.lt_of_le_of_lt (st_len i hi) (by decide)) (by omega)) ?_
  exact v_iret X Y dJ0_length_8abf5_10 (roI_of (by rw [Nat.pow_zero, Nat.div_one])) (by omega) (by omega)
