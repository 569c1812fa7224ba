set_option maxRecDepth 100000 in
set_option maxHeartbeats 4000000 in
theorem c_J3_checkIndex_s (l : Launch) (E : Et) (a : Nat) (b : Nat) (f : Nat) (ha : a < b) (hb : b < 2 ^ 31) : Ct l E yJ3_checkIndex_8e157 cJ3_checkIndex_8e157 3 (some .int) 0 0 0 [.int (nI a), .int (nI b), .ref f] [] (roI [] (nI a)) := by
  refine Ct.intro (by decide +kernel) (Nat.le_of_ble_eq_true rfl) (lv := [(0, .int (nI a)), (1, .int (nI b)), (2, .ref f)]) rfl ?_
  intro Z X Y
  refine v_iload_n X dJ3_checkIndex_8e157_0 rfl 0 rfl ?_
  refine v_if_lt X dJ3_checkIndex_8e157_1 (tgt := 9) (by decide) (fun h1 => ?_) (fun h1 => ?_)
  · exact absurd h1 (nI_pos (by omega))
  · refine v_iload_n X dJ3_checkIndex_8e157_4 rfl 0 rfl ?_
    refine v_iload_n X dJ3_checkIndex_8e157_5 rfl 1 rfl ?_
    refine v_icmpN_lt X dJ3_checkIndex_8e157_6 (tgt := 16) (by decide) (by omega) (by omega) (fun h6 => ?_) (fun h6 => ?_)
    · refine v_iload_n X dJ3_checkIndex_8e157_16 rfl 0 rfl ?_
      exact v_iret X Y dJ3_checkIndex_8e157_17 (roI_of rfl) (by omega) (by omega)
    · exfalso; omega
set_option maxRecDepth 100000 in
set_option maxHeartbeats 4000000 in
theorem c_J3_checkIndex_n (l : Launch) (E : Et) (a : Nat) (b : Nat) (ha : a < b) (hb : b < 2 ^ 31) : Ct l E yJ3_checkIndex_8e157 cJ3_checkIndex_8e157 3 (some .int) 0 0 0 [.int (nI a), .int (nI b), .null] [] (roI [] (nI a)) := by
  refine Ct.intro (by decide +kernel) (Nat.le_of_ble_eq_true rfl) (lv := [(0, .int (nI a)), (1, .int (nI b)), (2, .null)]) rfl ?_
  intro Z X Y
  refine v_iload_n X dJ3_checkIndex_8e157_0 rfl 0 rfl ?_
  refine v_if_lt X dJ3_checkIndex_8e157_1 (tgt := 9) (by decide) (fun h1 => ?_) (fun h1 => ?_)
  · exact absurd h1 (nI_pos (by omega))
  · refine v_iload_n X dJ3_checkIndex_8e157_4 rfl 0 rfl ?_
    refine v_iload_n X dJ3_checkIndex_8e157_5 rfl 1 rfl ?_
    refine v_icmpN_lt X dJ3_checkIndex_8e157_6 (tgt := 16) (by decide) (by omega) (by omega) (fun h6 => ?_) (fun h6 => ?_)
    · refine v_iload_n X dJ3_checkIndex_8e157_16 rfl 0 rfl ?_
      exact v_iret X Y dJ3_checkIndex_8e157_17 (roI_of rfl) (by omega) (by omega)
    · exfalso; omega
theorem c_J3_checkIndex_8e157 (l : Launch) (E : Et) (a : Nat) (b : Nat) (f : Option Nat) (ha : a < b) (hb : b < 2 ^ 31) : Ct l E yJ3_checkIndex_8e157 cJ3_checkIndex_8e157 3 (some .int) 0 0 0 [.int (nI a), .int (nI b), va_rf f] [] (roI [] (nI a)) := by
  cases f with
  | none => exact c_J3_checkIndex_n l E a b ha hb
  | some f => exact c_J3_checkIndex_s l E a b f ha hb
set_option maxRecDepth 100000 in
set_option maxHeartbeats 4000000 in
theorem c_J0_checkIndex_df160 (l : Launch) (E : Et) (a : Nat) (b : Nat) (ha : a < b) (hb : b < 2 ^ 31) : Ct l E yJ0_checkIndex_df160 cJ0_checkIndex_df160 2 none 1 0 0 [.int (nI a), .int (nI b)] [] (roV []) := by
  refine Ct.intro (by decide +kernel) (Nat.le_of_ble_eq_true rfl) (lv := [(0, .int (nI a)), (1, .int (nI b))]) rfl ?_
  intro Z X Y
  refine v_iload_n X dJ0_checkIndex_df160_0 rfl 0 rfl ?_
  refine v_iload_n X dJ0_checkIndex_df160_1 rfl 1 rfl ?_
  refine v_getSI X fl_J0_1053 dJ0_checkIndex_df160_2 ?_
  refine v_roI1 X (rn_S X k_J3_checkIndex_8e157 ml_J0_1059 dJ0_checkIndex_df160_5 (c_J3_checkIndex_8e157 l E a b (eF E) (by first | assumption | omega) (by first | assumption | omega)) rfl (by decide) (by decide) (by omega) (by omega) (Nat.le_of_ble_eq_true rfl)) [] rfl rfl ?_
  refine v_pop X dJ0_checkIndex_df160_8 rfl ?_
  exact v_vret X Y dJ0_checkIndex_df160_9 roV_of (by omega) (by omega)
set_option maxRecDepth 100000 in
set_option maxHeartbeats 4000000 in
theorem c_J1_charAt_3b067 (l : Launch) (E : Et) (i : Nat) (j : Nat) (hi : i < 20) (hj : j < (st_tx.getD i []).length) : Ct l E yJ1_charAt_3b067 cJ1_charAt_3b067 2 (some .char) 2 0 0 [.ref (eV E i), .int (nI j)] [] (roI [] (nI (chN i j))) := by
  refine Ct.intro (by decide +kernel) (Nat.le_of_ble_eq_true rfl) (lv := [(0, .ref (eV E i)), (1, .int (nI j))]) rfl ?_
  intro Z X Y
  refine v_iload_n X dJ1_charAt_3b067_0 rfl 1 rfl ?_
  refine v_aload_n X dJ1_charAt_3b067_1 rfl 0 rfl ?_
  refine v_stL X hi dJ1_charAt_3b067_2 ?_
  refine v_roV1 X (rn_S X k_J0_checkIndex_df160 ml_J1_9 dJ1_charAt_3b067_3 (c_J0_checkIndex_df160 l E j ((st_tx.getD i []).length) (by first | assumption | omega) (by have := st_len i hi; omega)) rfl (by decide) (by decide) (by omega) (by omega) (Nat.le_of_ble_eq_true rfl)) [] rfl rfl ?_
  refine v_aload_n X dJ1_charAt_3b067_6 rfl 0 rfl ?_
  refine v_iload_n X dJ1_charAt_3b067_7 rfl 1 rfl ?_
  refine v_stB X hi dJ1_charAt_3b067_8 hj (by have := st_len i hi; omega) ?_
  refine v_eqi (x' := nI (chN i j)) (st_c1 hi hj) ?_
  refine v_sipush X dJ1_charAt_3b067_9 (v := nI 255) (by decide) ?_
  refine v_iand X dJ1_charAt_3b067_12 ?_
  refine v_eqi (x' := (nI (chN i j) &&& nI 255)) rfl ?_
  refine v_i2c X dJ1_charAt_3b067_13 (v := nI (chN i j)) (c_and _ (st_lt hi hj)) ?_
  exact v_nret X Y dJ1_charAt_3b067_14 (nb_ch _ (st_lt hi hj)) (roI_of rfl) (by omega) (by omega)
set_option maxRecDepth 100000 in
set_option maxHeartbeats 4000000 in
theorem c_J0_charAt_5068e (l : Launch) (E : Et) (i : Nat) (j : Nat) (hi : i < 20) (hj : j < (st_tx.getD i []).length) : Ct l E yJ0_charAt_5068e cJ0_charAt_5068e 2 (some .char) 3 0 0 [.ref (eK E i), .int (nI j)] [] (roI [] (nI (chN i j))) := by
  refine Ct.intro (by decide +kernel) (Nat.le_of_ble_eq_true rfl) (lv := [(0, .ref (eK E i)), (1, .int (nI j))]) rfl ?_
  intro Z X Y
  refine v_aload_n X dJ0_charAt_5068e_0 rfl 0 rfl ?_
  refine v_roI1 X (rn_VO X k_J0_isLatin1_aae02 ml_J0_492 dJ0_charAt_5068e_1 (c_J0_isLatin1_aae02 l E i (by first | assumption | omega)) rfl hi (by decide) (by decide) (by omega) (by omega) (Nat.le_of_ble_eq_true rfl)) [] rfl rfl ?_
  refine v_ifN_eq X dJ0_charAt_5068e_4 (tgt := 16) (by decide) (by decide) (fun h4 => ?_) (fun h4 => ?_)
  · exfalso; omega
  · refine v_aload_n X dJ0_charAt_5068e_7 rfl 0 rfl ?_
    refine v_stV X hi fl_J0_9 dJ0_charAt_5068e_8 ?_
    refine v_iload_n X dJ0_charAt_5068e_11 rfl 1 rfl ?_
    refine v_roI1 X (rn_S X k_J1_charAt_3b067 ml_J0_495 dJ0_charAt_5068e_12 (c_J1_charAt_3b067 l E i j (by first | assumption | omega) (by first | assumption | omega)) rfl (by decide) (by decide) (by omega) (by omega) (Nat.le_of_ble_eq_true rfl)) [] rfl rfl ?_
    exact v_nret X Y dJ0_charAt_5068e_15 (nb_ch _ (st_lt hi hj)) (roI_of rfl) (by omega) (by omega)
set_option maxRecDepth 100000 in
set_option maxHeartbeats 4000000 in
theorem c_X4_packed (l : Launch) (E : Et) (i : Nat) (hi : i < 20) : Ct l E yX4_packed cX4_packed 4 (some .long) 4 0 0 [.ref (eK E i)] [] (roL [] (lN (pkS 27 i))) := by
  refine Ct.intro (by decide +kernel) (Nat.le_of_ble_eq_true rfl) (lv := [(0, .ref (eK E i))]) rfl ?_
  intro Z X Y
  have hl8 := st_len i hi
  refine v_lconst X dX4_packed_0 (v := lN 0) (by decide) ?_
  refine v_lstore_n X dX4_packed_1 rfl (by decide) (lv' := [(1, .long (lN 0)), (0, .ref (eK E i))]) rfl ?_
  refine v_iconst X dX4_packed_2 (v := nI 0) (by decide) ?_
  refine v_istore_n X dX4_packed_3 rfl (by decide) (lv' := [(3, .int (nI 0)), (1, .long (lN 0)), (0, .ref (eK E i))]) rfl ?_
  have L4 : ∀ (j4 : Nat) (vj : Nat) (vv : Nat), (vj ≤ (st_tx.getD i []).length ∧ vv = pkF 27 i vj) → (st_tx.getD i []).length - vj < j4 → V E Z 4 [(0, .ref (eK E i)), (1, .long (lN vv)), (3, .int (nI vj))] [] [] 0 0 := by
    intro j4
    induction j4 with
    | zero => intro vj vv hI hM; exact absurd hM (Nat.not_lt_zero _)
    | succ j4 ih4 =>
      intro vj vv hI4 hM4
      obtain ⟨hc, hb⟩ := id hI4
      refine v_iload_n X dX4_packed_4 rfl 2 rfl ?_
      refine v_aload_n X dX4_packed_5 rfl 0 rfl ?_
      refine v_roI1 X (rn_VO X k_J0_length_8abf5 ml_X4_118 dX4_packed_6 (c_J0_length_8abf5 l E i (by first | assumption | omega)) rfl hi (by decide) (by decide) (by omega) (by omega) (Nat.le_of_ble_eq_true rfl)) [] rfl rfl ?_
      refine v_icmpN_ge X dX4_packed_9 (tgt := 36) (by decide) (by omega) (by omega) (fun h9 => ?_) (fun h9 => ?_)
      · refine v_lload_n X dX4_packed_36 rfl 1 rfl ?_
        exact v_lret X Y dX4_packed_37 (roL_of (by rw [hb, show vj = (st_tx.getD i []).length by omega, pkS_e])) (by omega) (by omega)
      · refine v_lload_n X dX4_packed_12 rfl 1 rfl ?_
        refine v_ldc2 X dX4_packed_13 cs_X4_124 ?_
        refine v_eql (x' := lN 27) rfl ?_
        refine v_lmul X dX4_packed_16 ?_
        refine v_eql (x' := lN (vv * 27)) (lN_mul _ _) ?_
        refine v_aload_n X dX4_packed_17 rfl 0 rfl ?_
        refine v_iload_n X dX4_packed_18 rfl 2 rfl ?_
        refine v_roI1 X (rn_VO X k_J0_charAt_5068e ml_X4_126 dX4_packed_19 (c_J0_charAt_5068e l E i vj (by first | assumption | omega) (by omega)) rfl hi (by decide) (by decide) (by omega) (by omega) (Nat.le_of_ble_eq_true rfl)) [] rfl rfl ?_
        refine v_bipush X dX4_packed_22 (v := nI 97) (by decide) ?_
        refine v_isub X dX4_packed_24 ?_
        refine v_eqi (x' := nI (chN i vj - 97)) (pk_sub (st_ge hi (by omega))) ?_
        refine v_iconst X dX4_packed_25 (v := nI 1) (by decide) ?_
        refine v_iadd X dX4_packed_26 ?_
        refine v_eqi (x' := nI (chN i vj - 97 + 1)) (nI_add _ _) ?_
        refine v_i2l X dX4_packed_27 (v := lN (chN i vj - 97 + 1)) (nI_l (by have := st_lt hi (show vj < _ by omega); omega)) ?_
        refine v_ladd X dX4_packed_28 ?_
        refine v_eql (x' := lN ((vv * 27) + (chN i vj - 97 + 1))) (lN_add _ _) ?_
        refine v_lstore_n X dX4_packed_29 rfl (by decide) (lv' := [(1, .long (lN ((vv * 27) + (chN i vj - 97 + 1)))), (0, .ref (eK E i)), (3, .int (nI vj))]) rfl ?_
        refine v_iinc X dX4_packed_30 2 rfl (v := nI (vj + 1)) (nI_inc vj) (by decide) (lv' := [(3, .int (nI (vj + 1))), (1, .long (lN ((vv * 27) + (chN i vj - 97 + 1)))), (0, .ref (eK E i))]) rfl ?_
        refine v_goto X dX4_packed_33 (tgt := 4) (by decide) ?_
        refine V.lvs [2, 1, 0] rfl ?_
        exact ih4 (vj + 1) ((vv * 27) + (chN i vj - 97 + 1)) (⟨by omega, by rw [hb]; rfl⟩) (by omega)
  refine V.lvs [2, 1, 0] rfl ?_
  exact L4 _ 0 0 (⟨Nat.zero_le _, rfl⟩) (Nat.lt_succ_self _)
set_option maxRecDepth 100000 in
set_option maxHeartbeats 4000000 in
theorem c_X8_packed (l : Launch) (E : Et) (i : Nat) (hi : i < 20) : Ct l E yX8_packed cX8_packed 4 (some .long) 4 0 0 [.ref (eK E i)] [] (roL [] (lN (pkS 32 i))) := by
  refine Ct.intro (by decide +kernel) (Nat.le_of_ble_eq_true rfl) (lv := [(0, .ref (eK E i))]) rfl ?_
  intro Z X Y
  have hl8 := st_len i hi
  refine v_lconst X dX8_packed_0 (v := lN 0) (by decide) ?_
  refine v_lstore_n X dX8_packed_1 rfl (by decide) (lv' := [(1, .long (lN 0)), (0, .ref (eK E i))]) rfl ?_
  refine v_iconst X dX8_packed_2 (v := nI 0) (by decide) ?_
  refine v_istore_n X dX8_packed_3 rfl (by decide) (lv' := [(3, .int (nI 0)), (1, .long (lN 0)), (0, .ref (eK E i))]) rfl ?_
  have L4 : ∀ (j4 : Nat) (vj : Nat) (vv : Nat), (vj ≤ (st_tx.getD i []).length ∧ vv = pkF 32 i vj) → (st_tx.getD i []).length - vj < j4 → V E Z 4 [(0, .ref (eK E i)), (1, .long (lN vv)), (3, .int (nI vj))] [] [] 0 0 := by
    intro j4
    induction j4 with
    | zero => intro vj vv hI hM; exact absurd hM (Nat.not_lt_zero _)
    | succ j4 ih4 =>
      intro vj vv hI4 hM4
      obtain ⟨hc, hb⟩ := id hI4
      refine v_iload_n X dX8_packed_4 rfl 2 rfl ?_
      refine v_aload_n X dX8_packed_5 rfl 0 rfl ?_
      refine v_roI1 X (rn_VO X k_J0_length_8abf5 ml_X8_63 dX8_packed_6 (c_J0_length_8abf5 l E i (by first | assumption | omega)) rfl hi (by decide) (by decide) (by omega) (by omega) (Nat.le_of_ble_eq_true rfl)) [] rfl rfl ?_
      refine v_icmpN_ge X dX8_packed_9 (tgt := 36) (by decide) (by omega) (by omega) (fun h9 => ?_) (fun h9 => ?_)
      · refine v_lload_n X dX8_packed_36 rfl 1 rfl ?_
        exact v_lret X Y dX8_packed_37 (roL_of (by rw [hb, show vj = (st_tx.getD i []).length by omega, pkS_e])) (by omega) (by omega)
      · refine v_ldc2 X dX8_packed_12 cs_X8_69 ?_
        refine v_eql (x' := lN 32) rfl ?_
        refine v_lload_n X dX8_packed_15 rfl 1 rfl ?_
        refine v_lmul X dX8_packed_16 ?_
        refine v_eql (x' := lN (32 * vv)) (lN_mul _ _) ?_
        refine v_aload_n X dX8_packed_17 rfl 0 rfl ?_
        refine v_iload_n X dX8_packed_18 rfl 2 rfl ?_
        refine v_roI1 X (rn_VO X k_J0_charAt_5068e ml_X8_71 dX8_packed_19 (c_J0_charAt_5068e l E i vj (by first | assumption | omega) (by omega)) rfl hi (by decide) (by decide) (by omega) (by omega) (Nat.le_of_ble_eq_true rfl)) [] rfl rfl ?_
        refine v_bipush X dX8_packed_22 (v := nI 97) (by decide) ?_
        refine v_isub X dX8_packed_24 ?_
        refine v_eqi (x' := nI (chN i vj - 97)) (pk_sub (st_ge hi (by omega))) ?_
        refine v_iconst X dX8_packed_25 (v := nI 1) (by decide) ?_
        refine v_iadd X dX8_packed_26 ?_
        refine v_eqi (x' := nI (chN i vj - 97 + 1)) (nI_add _ _) ?_
        refine v_i2l X dX8_packed_27 (v := lN (chN i vj - 97 + 1)) (nI_l (by have := st_lt hi (show vj < _ by omega); omega)) ?_
        refine v_ladd X dX8_packed_28 ?_
        refine v_eql (x' := lN ((32 * vv) + (chN i vj - 97 + 1))) (lN_add _ _) ?_
        refine v_lstore_n X dX8_packed_29 rfl (by decide) (lv' := [(1, .long (lN ((32 * vv) + (chN i vj - 97 + 1)))), (0, .ref (eK E i)), (3, .int (nI vj))]) rfl ?_
        refine v_iinc X dX8_packed_30 2 rfl (v := nI (vj + 1)) (nI_inc vj) (by decide) (lv' := [(3, .int (nI (vj + 1))), (1, .long (lN ((32 * vv) + (chN i vj - 97 + 1)))), (0, .ref (eK E i))]) rfl ?_
        refine v_goto X dX8_packed_33 (tgt := 4) (by decide) ?_
        refine V.lvs [2, 1, 0] rfl ?_
        exact ih4 (vj + 1) ((32 * vv) + (chN i vj - 97 + 1)) (⟨by omega, by rw [hb]; rw [Nat.mul_comm 32]; rfl⟩) (by omega)
  refine V.lvs [2, 1, 0] rfl ?_
  exact L4 _ 0 0 (⟨Nat.zero_le _, rfl⟩) (Nat.lt_succ_self _)
set_option maxRecDepth 100000 in
set_option maxHeartbeats 4000000 in
theorem c_X4_stands (l : Launch) (E : Et) (hr : Nat) (ra : Nat → Nat) (fd : Nat) (re : Nat) (rk : Nat) (rp : Nat) (rn : Nat) (rv : Int64) (rh : Bool) (rc : Nat) (rf : Nat) (rw : Int32) (i : Nat) (hi : i < 20) (hrk : rk ≤ 5) : Ct l E yX4_stands cX4_stands 2 (some .boolean) 5 0 0 [.ref hr, .ref (eK E i)] [ob hr 4 [.ref (ra 0), .int (nI fd), .ref (ra 2), .ref (ra 3), .int (nI re), .int (nI rk), .int (nI rp), .int (nI rn), .long rv, .int (nI (rh).toNat), .ref (ra 10), .ref (ra 11), .ref (ra 12), .int (nI rc), .int (nI rf), .int rw]] (roI [ob hr 4 [.ref (ra 0), .int (nI fd), .ref (ra 2), .ref (ra 3), .int (nI re), .int (nI rk), .int (nI rp), .int (nI rn), .long rv, .int (nI (rh).toNat), .ref (ra 10), .ref (ra 11), .ref (ra 12), .int (nI rc), .int (nI rf), .int rw]] (nI (decide (rk = 1 ∧ rv = lN (pkS 27 i))).toNat)) := by
  refine Ct.intro (by decide +kernel) (Nat.le_of_ble_eq_true rfl) (lv := [(0, .ref hr), (1, .ref (eK E i))]) rfl ?_
  intro Z X Y
  refine v_aload_n X dX4_stands_0 rfl 0 rfl ?_
  refine v_get X kcX4 fl_X4_90 dX4_stands_1 0 rfl rfl ?_
  refine v_iconst X dX4_stands_4 (v := nI 1) (by decide) ?_
  refine v_icmpN_ne X dX4_stands_5 (tgt := 24) (by decide) (by omega) (by decide) (fun h5 => ?_) (fun h5 => ?_)
  · refine v_iconst X dX4_stands_24 (v := nI 0) (by decide) ?_
    exact v_zret X Y dX4_stands_25 (by decide) (roI_of (bo0 (decide_eq_false (fun q => h5 q.1)))) (by omega) (by omega)
  · refine v_aload_n X dX4_stands_8 rfl 0 rfl ?_
    refine v_get X kcX4 fl_X4_114 dX4_stands_9 0 rfl rfl ?_
    refine v_aload_n X dX4_stands_12 rfl 1 rfl ?_
    refine v_roL1 X (rn_S X k_X4_packed ml_X4_28 dX4_stands_13 (c_X4_packed l E i (by first | assumption | omega)) rfl (by decide) (by decide) (by omega) (by omega) (Nat.le_of_ble_eq_true rfl)) [] rfl rfl ?_
    refine v_lcmp X dX4_stands_16 ?_
    refine v_ifL_ne X dX4_stands_17 (tgt := 24) (by decide) (fun h17 => ?_) (fun h17 => ?_)
    · refine v_iconst X dX4_stands_24 (v := nI 0) (by decide) ?_
      exact v_zret X Y dX4_stands_25 (by decide) (roI_of (bo0 (decide_eq_false (fun q => h17 q.2)))) (by omega) (by omega)
    · refine v_iconst X dX4_stands_20 (v := nI 1) (by decide) ?_
      refine v_goto X dX4_stands_21 (tgt := 25) (by decide) ?_
      exact v_zret X Y dX4_stands_25 (by decide) (roI_of (bo1 (decide_eq_true ⟨h5, h17⟩))) (by omega) (by omega)
set_option maxRecDepth 100000 in
set_option maxHeartbeats 4000000 in
theorem c_X4_passesWord (l : Launch) (E : Et) (hr : Nat) (ra : Nat → Nat) (fd : Nat) (re : Nat) (rk : Nat) (rp : Nat) (rn : Nat) (rv : Int64) (rh : Bool) (rc : Nat) (rf : Nat) (rw : Int32) (tp : Nat → Int32) (i : Nat) (hi : i < 20) (hre : re ≤ 900) (hrn : rn ≤ re) (hrk : rk ≤ 5) : Ct l E yX4_passesWord cX4_passesWord 2 (some .boolean) 6 0 0 [.ref hr, .ref (eK E i)] [ob hr 4 [.ref (ra 0), .int (nI fd), .ref (ra 2), .ref (ra 3), .int (nI re), .int (nI rk), .int (nI rp), .int (nI rn), .long rv, .int (nI (rh).toNat), .ref (ra 10), .ref (ra 11), .ref (ra 12), .int (nI rc), .int (nI rf), .int rw], aB E (ra 0) 900 tp] (wrI [ob hr 4 [.ref (ra 0), .int (nI fd), .ref (ra 2), .ref (ra 3), .int (nI re), .int (nI ((psF tp re (decide (rk = 1 ∧ rv = lN (pkS 27 i))) ((rk, rp, rn, rv), rf, rw)).2.1.1)), .int (nI ((psF tp re (decide (rk = 1 ∧ rv = lN (pkS 27 i))) ((rk, rp, rn, rv), rf, rw)).2.1.2.1)), .int (nI ((psF tp re (decide (rk = 1 ∧ rv = lN (pkS 27 i))) ((rk, rp, rn, rv), rf, rw)).2.1.2.2.1)), .long ((psF tp re (decide (rk = 1 ∧ rv = lN (pkS 27 i))) ((rk, rp, rn, rv), rf, rw)).2.1.2.2.2), .int (nI (rh).toNat), .ref (ra 10), .ref (ra 11), .ref (ra 12), .int (nI rc), .int (nI ((psF tp re (decide (rk = 1 ∧ rv = lN (pkS 27 i))) ((rk, rp, rn, rv), rf, rw)).2.2.1)), .int ((psF tp re (decide (rk = 1 ∧ rv = lN (pkS 27 i))) ((rk, rp, rn, rv), rf, rw)).2.2.2)], aB E (ra 0) 900 tp] (nI ((psF tp re (decide (rk = 1 ∧ rv = lN (pkS 27 i))) ((rk, rp, rn, rv), rf, rw)).1).toNat)) := by
  refine Ct.intro (by decide +kernel) (Nat.le_of_ble_eq_true rfl) (lv := [(0, .ref hr), (1, .ref (eK E i))]) rfl ?_
  intro Z X Y
  refine v_aload_n X dX4_passesWord_0 rfl 0 rfl ?_
  refine v_aload_n X dX4_passesWord_1 rfl 0 rfl ?_
  refine v_aload_n X dX4_passesWord_2 rfl 1 rfl ?_
  refine v_roI1 X (rn_V X k_X4_stands ml_X4_130 dX4_passesWord_3 (c_X4_stands l E hr ra fd re rk rp rn rv rh rc rf rw i (by first | assumption | omega) (by first | assumption | omega)) rfl 0 rfl rfl (by decide) (by decide) (by omega) (by omega) (Nat.le_of_ble_eq_true rfl)) [0] rfl rfl ?_
  refine v_wrI1 X (rn_V X k_X4_passes ml_X4_103 dX4_passesWord_6 (c_X4_passes l E hr ra fd re rk rp rn rv rh rc rf rw tp (decide (rk = 1 ∧ rv = lN (pkS 27 i))) (by first | assumption | omega) (by first | assumption | omega)) rfl 0 rfl rfl (by decide) (by decide) (by omega) (by omega) (Nat.le_of_ble_eq_true rfl)) [0, 1] rfl rfl (ws' := [ob hr 4 [.ref (ra 0), .int (nI fd), .ref (ra 2), .ref (ra 3), .int (nI re), .int (nI ((psF tp re (decide (rk = 1 ∧ rv = lN (pkS 27 i))) ((rk, rp, rn, rv), rf, rw)).2.1.1)), .int (nI ((psF tp re (decide (rk = 1 ∧ rv = lN (pkS 27 i))) ((rk, rp, rn, rv), rf, rw)).2.1.2.1)), .int (nI ((psF tp re (decide (rk = 1 ∧ rv = lN (pkS 27 i))) ((rk, rp, rn, rv), rf, rw)).2.1.2.2.1)), .long ((psF tp re (decide (rk = 1 ∧ rv = lN (pkS 27 i))) ((rk, rp, rn, rv), rf, rw)).2.1.2.2.2), .int (nI (rh).toNat), .ref (ra 10), .ref (ra 11), .ref (ra 12), .int (nI rc), .int (nI ((psF tp re (decide (rk = 1 ∧ rv = lN (pkS 27 i))) ((rk, rp, rn, rv), rf, rw)).2.2.1)), .int ((psF tp re (decide (rk = 1 ∧ rv = lN (pkS 27 i))) ((rk, rp, rn, rv), rf, rw)).2.2.2)], aB E (ra 0) 900 tp]) rfl rfl ?_
  exact v_zret X Y dX4_passesWord_9 (nb_bool _) (wrI_of rfl rfl) (by omega) (by omega)
