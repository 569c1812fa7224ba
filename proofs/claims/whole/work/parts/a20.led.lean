theorem led_lt {c B : Nat} (hc : c ≤ 8) : ndf (2 ^ c - 1) B < 256 := by
  refine Nat.lt_of_lt_of_le (Nat.lt_pow_two_of_testBit (n := c) _ (fun i hi => ?_)) (Nat.pow_le_pow_right (n := 2) (by decide) hc)
  rw [ndf_tb, Nat.testBit_two_pow_sub_one, decide_eq_false (by omega), Bool.false_and]
theorem kth_cg {p q : Nat → Bool} {i : Int32} : ∀ (m c c0 : Nat), (∀ s, c ≤ s → s < c + m → p s = q s) → kth p i m c c0 = kth q i m c c0
  | 0, _, _, _ => rfl
  | m + 1, c, c0, h => by
    rw [kth, kth, h c (Nat.le_refl _) (by omega), kth_cg m (c + 1) (c0 + 1) (fun s h1 h2 => h s (by omega) (by omega)), kth_cg m (c + 1) c0 (fun s h1 h2 => h s (by omega) (by omega))]
theorem led_e {cy5 : Nat} {ink : Nat → Nat} {i : Int32} (hc : cy5 ≤ 8) : kth (fun s => (ndf (2 ^ cy5 - 1) (bbits (fun c => decide (0 < ink c)) 8)).testBit s) i 64 0 0 = kth (fun c => decide (ink c = 0)) i cy5 0 0 := by
  have e : 64 = cy5 + (64 - cy5) := by omega
  rw [e, kth_ext (64 - cy5) cy5 0 0 (fun s hs => by rw [ndf_tb, Nat.testBit_two_pow_sub_one, decide_eq_false (by omega), Bool.false_and])]
  refine kth_cg _ _ _ (fun s h1 h2 => ?_)
  rw [ndf_tb, Nat.testBit_two_pow_sub_one, bbits_tb, decide_eq_true (show s < cy5 by omega), decide_eq_true (show s < 8 by omega)]
  by_cases z : ink s = 0
  · rw [decide_eq_true z, decide_eq_false (by omega)]; rfl
  · rw [decide_eq_false z, decide_eq_true (by omega)]; rfl
set_option maxRecDepth 100000 in
set_option maxHeartbeats 4000000 in
theorem c_X6_led (l : Launch) (E : Et) (x : Nat) (xa : Nat → Nat) (g : Nat) (tr : Nat) (fl : Nat) (pl : Int32) (cy : Nat → Nat) (ca : Nat → Nat) (hi : Nat) (hm : Nat) (t : Nat) (dd : Nat) (ink : Nat → Nat) (mn : Nat → Int32) (i : Int32) (hcl : cy 5 ≤ 8) (hink : ∀ c, ink c ≤ 40) (hk : ¬ kth (fun s => (ndf (2 ^ cy 5 - 1) (bbits (fun c => decide (0 < ink c)) 8)).testBit s) i 64 0 0 = (-1)) : Ct l E yX6_led cX6_led 4 (some .int) 2 0 0 [.ref x, .int i] [ob x 6 [.ref (xa 0), .ref g, .ref (xa 2), .ref (xa 3), .ref (xa 4), .ref (xa 5), .ref (xa 6), .ref (xa 7), .int (nI tr), .int (nI fl), .int pl], ob g 0 [.int (nI (cy 0)), .int (nI (cy 1)), .int (nI (cy 2)), .int (nI (cy 3)), .int (nI (cy 4)), .int (nI (cy 5)), .int (nI (cy 6)), .int (nI (cy 7)), .ref (ca 0), .ref (ca 1), .ref (ca 2), .ref (ca 3), .ref (ca 4), .ref (ca 5), .ref (ca 6), .ref (ca 7), .ref (ca 8), .ref (ca 9), .ref (ca 10), .ref (ca 11)], ob (xa 3) 2 [.ref hi, .ref hm, .int (nI t), .int (nI dd)], aN E hi 8 ink, aI E hm 8 mn] (roI [ob x 6 [.ref (xa 0), .ref g, .ref (xa 2), .ref (xa 3), .ref (xa 4), .ref (xa 5), .ref (xa 6), .ref (xa 7), .int (nI tr), .int (nI fl), .int pl], ob g 0 [.int (nI (cy 0)), .int (nI (cy 1)), .int (nI (cy 2)), .int (nI (cy 3)), .int (nI (cy 4)), .int (nI (cy 5)), .int (nI (cy 6)), .int (nI (cy 7)), .ref (ca 0), .ref (ca 1), .ref (ca 2), .ref (ca 3), .ref (ca 4), .ref (ca 5), .ref (ca 6), .ref (ca 7), .ref (ca 8), .ref (ca 9), .ref (ca 10), .ref (ca 11)], ob (xa 3) 2 [.ref hi, .ref hm, .int (nI t), .int (nI dd)], aN E hi 8 ink, aI E hm 8 mn] (kth (fun s => (ndf (2 ^ cy 5 - 1) (bbits (fun c => decide (0 < ink c)) 8)).testBit s) i 64 0 0)) := by
  refine Ct.intro (by decide +kernel) (Nat.le_of_ble_eq_true rfl) (lv := [(0, .ref x), (1, .int i)]) rfl ?_
  intro Z X Y
  have hmk : ndf (2 ^ cy 5 - 1) (bbits (fun c => decide (0 < ink c)) 8) < 256 := led_lt hcl
  refine v_iconst X dX6_led_0 (v := nI 1) (by decide) ?_
  refine v_aload_n X dX6_led_1 rfl 0 rfl ?_
  refine v_get X kcX6 fl_X6_19 dX6_led_2 0 rfl rfl ?_
  refine v_getN X kcX0 fl_X6_179 dX6_led_5 1 rfl rfl ?_
  refine v_ishl X dX6_led_8 ?_
  refine v_eqi (x' := nI (2 ^ (cy 5))) (nI_shl1 (by omega)) ?_
  refine v_iconst X dX6_led_9 (v := nI 1) (by decide) ?_
  refine v_isub X dX6_led_10 ?_
  refine v_eqi (x' := nI (2 ^ cy 5 - 1)) (pk_sub (Nat.pow_pos (by decide))) ?_
  refine v_aload_n X dX6_led_11 rfl 0 rfl ?_
  refine v_get X kcX6 fl_X6_30 dX6_led_12 0 rfl rfl ?_
  refine v_iconst X dX6_led_15 (v := nI 0) (by decide) ?_
  refine v_roI1 X (rn_VN X k_X2_binding ml_X6_182 dX6_led_16 (c_X2_binding l E (xa 3) hi hm t dd ink 0 (by first | assumption | omega) (by decide)) rfl 0 rfl rfl (by decide) (by decide) (by omega) (by omega) (Nat.le_of_ble_eq_true rfl)) [2, 3] rfl rfl ?_
  refine v_iconst X dX6_led_19 (v := (-1)) (by decide) ?_
  refine v_ixor X dX6_led_20 ?_
  refine v_iand X dX6_led_21 ?_
  refine v_eqi (x' := nI (ndf (2 ^ cy 5 - 1) (bbits (fun c => decide (0 < ink c)) 8))) (nI_andn _ _) ?_
  refine v_istore_n X dX6_led_22 rfl (by decide) (lv' := [(2, .int (nI (ndf (2 ^ cy 5 - 1) (bbits (fun c => decide (0 < ink c)) 8)))), (0, .ref x), (1, .int i)]) rfl ?_
  refine v_iload_n X dX6_led_23 rfl 0 rfl ?_
  refine v_i2l X dX6_led_24 (v := lN (ndf (2 ^ cy 5 - 1) (bbits (fun c => decide (0 < ink c)) 8))) (nI_l (by omega)) ?_
  refine v_iload_n X dX6_led_25 rfl 2 rfl ?_
  refine v_roI1 X (rn_S X k_X6_bitAt ml_X6_150 dX6_led_26 (c_X6_bitAt l E (ndf (2 ^ cy 5 - 1) (bbits (fun c => decide (0 < ink c)) 8)) i (by omega)) rfl (by decide) (by decide) (by omega) (by omega) (Nat.le_of_ble_eq_true rfl)) [] rfl rfl ?_
  refine v_istore_n X dX6_led_29 rfl (by decide) (lv' := [(3, .int (kth (fun s => (ndf (2 ^ cy 5 - 1) (bbits (fun c => decide (0 < ink c)) 8)).testBit s) i 64 0 0)), (2, .int (nI (ndf (2 ^ cy 5 - 1) (bbits (fun c => decide (0 < ink c)) 8)))), (0, .ref x), (1, .int i)]) rfl ?_
  refine v_iload_n X dX6_led_30 rfl 0 rfl ?_
  refine v_iconst X dX6_led_31 (v := (-1)) (by decide) ?_
  refine v_icmp_ne X dX6_led_32 (tgt := 46) (by decide) (fun h32 => ?_) (fun h32 => ?_)
  · refine v_iload_n X dX6_led_46 rfl 0 rfl ?_
    exact v_iret X Y dX6_led_47 (roI_of rfl) (by omega) (by omega)
  · exact absurd h32 hk
