set_option maxRecDepth 100000 in
set_option maxHeartbeats 4000000 in
theorem c_X6_led_x (l : Launch) (E : Et) (x : Nat) (xa : Nat → Nat) (g : Nat) (tr : Nat) (fl : Nat) (pl : Int32) (cy : Nat → Nat) (ca : Nat → Nat) (hi : Nat) (hm : Nat) (t : Nat) (dd : Nat) (ink : Nat → Nat) (mn : Nat → Int32) (i : Int32) (hcl : cy 5 ≤ 8) (hink : ∀ c, ink c ≤ 40) (hl : l.stackTraces = false) (hk : kth (fun s => (ndf (2 ^ cy 5 - 1) (bbits (fun c => decide (0 < ink c)) 8)).testBit s) i 64 0 0 = (-1)) : CtX l E yX6_led cX6_led 4 (some .int) 6 1 6 [.ref x, .int i] [ob x 6 [.ref (xa 0), .ref g, .ref (xa 2), .ref (xa 3), .ref (xa 4), .ref (xa 5), .ref (xa 6), .ref (xa 7), .int (nI tr), .int (nI fl), .int pl], ob g 0 [.int (nI (cy 0)), .int (nI (cy 1)), .int (nI (cy 2)), .int (nI (cy 3)), .int (nI (cy 4)), .int (nI (cy 5)), .int (nI (cy 6)), .int (nI (cy 7)), .ref (ca 0), .ref (ca 1), .ref (ca 2), .ref (ca 3), .ref (ca 4), .ref (ca 5), .ref (ca 6), .ref (ca 7), .ref (ca 8), .ref (ca 9), .ref (ca 10), .ref (ca 11)], ob (xa 3) 2 [.ref hi, .ref hm, .int (nI t), .int (nI dd)], aN E hi 8 ink, aI E hm 8 mn] := by
  refine CtX.intro (by decide +kernel) (Nat.le_of_ble_eq_true rfl) (lv := [(0, .ref x), (1, .int i)]) rfl ?_
  intro Z X Y
  have hmk : ndf (2 ^ cy 5 - 1) (bbits (fun c => decide (0 < ink c)) 8) < 256 := led_lt hcl
  refine v_iconst X dX6_led_0 (v := nI 1) (by decide) ?_
  refine v_aload_n X dX6_led_1 rfl 0 rfl ?_
  refine v_get X kcX6 fl_X6_19 dX6_led_2 0 rfl rfl ?_
  refine v_getN X kcX0 fl_X6_179 dX6_led_5 1 rfl rfl ?_
  refine v_ishl X dX6_led_8 ?_
  refine v_eqi (x' := nI (2 ^ (cy 5))) (nI_shl1 (by omega)) ?_
  refine v_iconst X dX6_led_9 (v := nI 1) (by decide) ?_
  refine v_isub X dX6_led_10 ?_
  refine v_eqi (x' := nI (2 ^ cy 5 - 1)) (pk_sub (Nat.pow_pos (by decide))) ?_
  refine v_aload_n X dX6_led_11 rfl 0 rfl ?_
  refine v_get X kcX6 fl_X6_30 dX6_led_12 0 rfl rfl ?_
  refine v_iconst X dX6_led_15 (v := nI 0) (by decide) ?_
  refine v_roI1 X (rn_VN X k_X2_binding ml_X6_182 dX6_led_16 (c_X2_binding l E (xa 3) hi hm t dd ink 0 (by first | assumption | omega) (by decide)) rfl 0 rfl rfl (by decide) (by decide) (by omega) (by omega) (Nat.le_of_ble_eq_true rfl)) [2, 3] rfl rfl ?_
  refine v_iconst X dX6_led_19 (v := (-1)) (by decide) ?_
  refine v_ixor X dX6_led_20 ?_
  refine v_iand X dX6_led_21 ?_
  refine v_eqi (x' := nI (ndf (2 ^ cy 5 - 1) (bbits (fun c => decide (0 < ink c)) 8))) (nI_andn _ _) ?_
  refine v_istore_n X dX6_led_22 rfl (by decide) (lv' := [(2, .int (nI (ndf (2 ^ cy 5 - 1) (bbits (fun c => decide (0 < ink c)) 8)))), (0, .ref x), (1, .int i)]) rfl ?_
  refine v_iload_n X dX6_led_23 rfl 0 rfl ?_
  refine v_i2l X dX6_led_24 (v := lN (ndf (2 ^ cy 5 - 1) (bbits (fun c => decide (0 < ink c)) 8))) (nI_l (by omega)) ?_
  refine v_iload_n X dX6_led_25 rfl 2 rfl ?_
  refine v_roI1 X (rn_S X k_X6_bitAt ml_X6_150 dX6_led_26 (c_X6_bitAt l E (ndf (2 ^ cy 5 - 1) (bbits (fun c => decide (0 < ink c)) 8)) i (by omega)) rfl (by decide) (by decide) (by omega) (by omega) (Nat.le_of_ble_eq_true rfl)) [] rfl rfl ?_
  refine v_istore_n X dX6_led_29 rfl (by decide) (lv' := [(3, .int (kth (fun s => (ndf (2 ^ cy 5 - 1) (bbits (fun c => decide (0 < ink c)) 8)).testBit s) i 64 0 0)), (2, .int (nI (ndf (2 ^ cy 5 - 1) (bbits (fun c => decide (0 < ink c)) 8)))), (0, .ref x), (1, .int i)]) rfl ?_
  refine v_iload_n X dX6_led_30 rfl 0 rfl ?_
  refine v_iconst X dX6_led_31 (v := (-1)) (by decide) ?_
  refine v_icmp_ne X dX6_led_32 (tgt := 46) (by decide) (fun h32 => ?_) (fun h32 => ?_)
  · exact absurd hk h32
  · exact v_thr X Y hl dX6_led_35 dX6_led_38 dX6_led_39 dX6_led_42 dX6_led_45 (by omega) (by omega) (by omega)
set_option maxRecDepth 100000 in
set_option maxHeartbeats 4000000 in
theorem c_X8_thrown_n (l : Launch) (E : Et) (k : Nat) (th : Nat) (tr : Nat) (wh : Int32) (rr : Option Nat) (q : Nat → Nat) (z : Nat → Nat) (nb : Int32) (wa : Int32) (wd : Int64) (ev : Nat) (al : Int32) (wl : Int64)  : Ct l E yX8_thrown cX8_thrown 1 (some .int) 0 0 0 [.ref k] [ob k 8 [.int (nI th), .int (nI tr), .int wh, .null, va_rf rr, .ref (q 5), .int (nI (z 6)), .int (nI (z 7)), .int (nI (z 8)), .int (nI (z 9)), .int (nI (z 10)), .int nb, .int (nI (z 12)), .int wa, .long wd, .ref (q 15), .ref (q 16), .ref (q 17), .ref (q 18), .int (nI (z 19)), .int (nI (z 20)), .ref (q 21), .long (lN ev), .ref (q 23), .ref (q 24), .int (nI (z 25)), .ref (q 26), .int al, .long wl, .int (nI (z 29))]] (roI [ob k 8 [.int (nI th), .int (nI tr), .int wh, .null, va_rf rr, .ref (q 5), .int (nI (z 6)), .int (nI (z 7)), .int (nI (z 8)), .int (nI (z 9)), .int (nI (z 10)), .int nb, .int (nI (z 12)), .int wa, .long wd, .ref (q 15), .ref (q 16), .ref (q 17), .ref (q 18), .int (nI (z 19)), .int (nI (z 20)), .ref (q 21), .long (lN ev), .ref (q 23), .ref (q 24), .int (nI (z 25)), .ref (q 26), .int al, .long wl, .int (nI (z 29))]] (nI th)) := by
  refine Ct.intro (by decide +kernel) (Nat.le_of_ble_eq_true rfl) (lv := [(0, .ref k)]) rfl ?_
  intro Z X Y
  refine v_aload_n X dX8_thrown_0 rfl 0 rfl ?_
  refine v_get X kcX8 fl_X8_43 dX8_thrown_1 0 rfl rfl ?_
  exact v_iret X Y dX8_thrown_4 (roI_of rfl) (by omega) (by omega)
def PoL (E : Et) (oa : Nat) (w6 w6' : va_W) (kt : Int32) : Option Value → va_W → Prop := fun r w => ∃ o9 : Nat → Int64, r = some (.int (nI (if kt = -1 then 1 else 0))) ∧ ((kt = -1 ∧ w = [aL E oa 1 o9] ++ w6) ∨ (¬ kt = -1 ∧ o9 0 = kt.toInt64 ∧ w = [aL E oa 1 o9] ++ w6'))
set_option maxRecDepth 100000 in
set_option maxHeartbeats 2000000 in
theorem c_L_led (l : Launch) (E : Et) (x oa : Nat) (i kt : Int32) (of_ : Nat → Int64) (w6 w6' : va_W) (j6 : Nat) (fs6 : List Value) (hj6 : w6[j6]? = some (ob x 6 fs6)) (h1 : ¬ kt = -1 → Ct l E yX6_led cX6_led 4 (some .int) 2 0 0 [.ref x, .int i] w6 (wrI w6' kt)) (h2 : kt = -1 → CtX l E yX6_led cX6_led 4 (some .int) 6 1 6 [.ref x, .int i] w6) :
    CtW l E yL_led cL_led 4 (some .int) [(0, 9, 12, 13)] 7 1 6 [.ref x, .int i, .ref oa] (w6 ++ [aL E oa 1 of_]) (PoL E oa w6 w6' kt) := by
  refine CtW.intro (by decide +kernel) (Nat.le_of_ble_eq_true rfl) (lv := [(0, .ref x), (1, .int i), (2, .ref oa)]) rfl ?_
  intro Z X Y xv htab
  refine v_aload_n X dL_led_0 rfl 2 rfl ?_
  refine v_iconst X dL_led_1 (v := nI 0) (by decide) ?_
  refine v_aload_n X dL_led_2 rfl 0 rfl ?_
  refine v_iload_n X dL_led_3 rfl 1 rfl ?_
  by_cases hk : kt = -1
  · refine v_xcatch X xv htab dL_led_4 (h2 hk) rfl (rest := [.int (nI 0), .ref oa]) rfl j6 hj6 (by decide) (by omega) (by omega) (Nat.le_of_ble_eq_true rfl) (List.range' 0 w6.length) (nd_rg _ _) (pf_get w6 _) (fun q => ?_)
    refine v_astore_n X dL_led_12 rfl (by decide) (lv' := [(3, .ref q), (0, .ref x), (1, .int i), (2, .ref oa)]) rfl ?_
    refine v_iconst X dL_led_13 (v := nI 1) (by decide) ?_
    refine V_perm List.perm_append_comm ?_
    exact v_iret X Y dL_led_14 ⟨of_, by rw [if_pos hk], Or.inl ⟨hk, rfl⟩⟩ (by omega) (by omega)
  · refine v_nwP X (rn_V X k_X6_led ml_L_7 dL_led_4 (h1 hk) (rest := [.int (nI 0), .ref oa]) rfl j6 hj6 kcX6.1 (by decide) (by decide) (by omega) (by omega) (Nat.le_of_ble_eq_true rfl)) (wr := [aL E oa 1 of_]) rfl (fun r w hp => ?_)
    obtain ⟨rfl, rfl⟩ := hp
    refine V.cast (st' := [.int kt, .int (nI 0), .ref oa]) rfl rfl rfl ?_
    refine v_i2l X dL_led_7 (v := kt.toInt64) rfl ?_
    refine v_last X dL_led_8 0 rfl (i := 0) (by decide) (by decide) (ws' := [aL E oa 1 (vp_updL of_ 0 kt.toInt64)] ++ w) rfl ?_
    refine v_goto X dL_led_9 (tgt := 15) (by decide) ?_
    refine v_iconst X dL_led_15 (v := nI 0) (by decide) ?_
    exact v_iret X Y dL_led_16 ⟨vp_updL of_ 0 kt.toInt64, by rw [if_neg hk], Or.inr ⟨hk, by simp [vp_updL], rfl⟩⟩ (by omega) (by omega)
set_option maxRecDepth 100000 in
set_option maxHeartbeats 4000000 in
theorem op_led (l : Launch) (E : Et) (x k : Nat) (hl : l.stackTraces = false) (i : Int32) (w6 w8 : va_W) (hv : INV E x k w6 w8) : ∃ (kt : Int32) (w6' w8' : va_W), INV E x k w6 w8' ∧ INV E x k w6' w8' ∧ (¬ kt = -1 → Ct l E yX6_led cX6_led 4 (some .int) 2 0 0 [.ref x, .int i] w6 (wrI w6' kt)) ∧ (kt = -1 → CtX l E yX6_led cX6_led 4 (some .int) 6 1 6 [.ref x, .int i] w6) ∧ Ct l E yX8_led cX8_led 4 (some .int) 5 0 0 [.ref k, .int i] w8 (wrI w8' (if kt = -1 then 0 else kt)) ∧ Ct l E yX8_thrown cX8_thrown 1 (some .int) 0 0 0 [.ref k] w8' (wrI w8' (nI (if kt = -1 then 1 else 0))) := by
  rcases hv with hv | hv
  · obtain ⟨u6, u8, hp6, hp8, hF, hN, hW⟩ := hv
    have hink := hF.2.2.2.2.2.2.2.2.2.1
    have hc5 := hF.2.2.2.2.2.2.2.2.2.2.2.2.2.2.2.2.2.2.2.1
    have hy5 : (s6_cy u6) 5 = 0 := hN.1 5 (by decide)
    have he := led_e (cy5 := (s6_cy u6) 5) (ink := s6_ink u6) (i := i) hc5
    have hkt : kth (fun c => decide (s6_ink u6 c = 0)) i ((s6_cy u6) 5) 0 0 = -1 := by rw [hy5]; rfl
    refine ⟨kth (fun c => decide (s6_ink u6 c = 0)) i ((s6_cy u6) 5) 0 0, W6 E x u6, W8n E k u6 (((s8_q u8), 1, (s8_tr8 u8), (s8_wh u8), (s8_rr u8), (s8_z u8), (s8_nb u8), (s8_wa u8)), g8_1 u8, g8_2 u8, g8_3 u8, g8_4 u8), Or.inl ⟨u6, (((s8_q u8), 1, (s8_tr8 u8), (s8_wh u8), (s8_rr u8), (s8_z u8), (s8_nb u8), (s8_wa u8)), g8_1 u8, g8_2 u8, g8_3 u8, g8_4 u8), hp6, List.Perm.refl _, hF, hN, hW⟩, Or.inl ⟨u6, (((s8_q u8), 1, (s8_tr8 u8), (s8_wh u8), (s8_rr u8), (s8_z u8), (s8_nb u8), (s8_wa u8)), g8_1 u8, g8_2 u8, g8_3 u8, g8_4 u8), List.Perm.refl _, List.Perm.refl _, hF, hN, hW⟩, fun h9 => (by have h6 := Ct.perm hp6.symm (Ct.frRI (ws := W6 E x u6) (ws' := W6 E x u6) (c_X6_led l E x (s6_xa u6) (s6_g u6) (s6_tr u6) (s6_fl u6) (s6_pl u6) (s6_cy u6) (s6_ca u6) (s6_hi u6) (s6_hm u6) (s6_t u6) (s6_dd u6) (s6_ink u6) (s6_mn u6) i hc5 hink (by rw [he]; exact h9)) [0, 20, 36, 37, 38] rfl rfl rfl); rw [he] at h6; exact h6), fun h9 => CtX.perm hp6.symm (CtX.frame (c_X6_led_x l E x (s6_xa u6) (s6_g u6) (s6_tr u6) (s6_fl u6) (s6_pl u6) (s6_cy u6) (s6_ca u6) (s6_hi u6) (s6_hm u6) (s6_t u6) (s6_dd u6) (s6_ink u6) (s6_mn u6) i hc5 hink hl (by rw [he]; exact h9)) [0, 20, 36, 37, 38] rfl rfl), ?_, ?_⟩
    · rw [if_pos hkt]
      exact Ct.perm hp8.symm (Ct.frI (c_X8_led_n l E k (s8_th u8) (s8_tr8 u8) (s8_wh u8) (s8_rr u8) (s8_q u8) (upN (upN (upN (upN (s8_z u8) 6 (s6_fd u6)) 12 (s6_fl u6)) 19 (s6_ac u6)) 20 (s6_im u6)) (s8_nb u8) (s8_wa u8) (s8_wd u8) (s8_ev u8) (s8_al u8) (s8_wl u8) i) [0] rfl rfl rfl rfl)
    · rw [if_pos hkt]
      exact Ct.frRI (c_X8_thrown_n l E k 1 (s8_tr8 u8) (s8_wh u8) (s8_rr u8) (s8_q u8) (upN (upN (upN (upN (s8_z u8) 6 (s6_fd u6)) 12 (s6_fl u6)) 19 (s6_ac u6)) 20 (s6_im u6)) (s8_nb u8) (s8_wa u8) (s8_wd u8) (s8_ev u8) (s8_al u8) (s8_wl u8)) [0] rfl rfl rfl
  · obtain ⟨u6, u8, hp6, hp8, hF, hG, hP, hW⟩ := hv
    have hink := hF.2.2.2.2.2.2.2.2.2.1
    have hc5 := hF.2.2.2.2.2.2.2.2.2.2.2.2.2.2.2.2.2.2.2.1
    have he := led_e (cy5 := (s6_cy u6) 5) (ink := s6_ink u6) (i := i) hc5
    refine ⟨kth (fun c => decide (s6_ink u6 c = 0)) i ((s6_cy u6) 5) 0 0, W6 E x u6, W8c E k u6 (((s8_q u8), (if kth (fun c => decide (s6_ink u6 c = 0)) i ((s6_cy u6) 5) 0 0 = -1 then 1 else 0), (s8_tr8 u8), (s8_wh u8), (s8_rr u8), (s8_z u8), (s8_nb u8), (s8_wa u8)), g8_1 u8, g8_2 u8, g8_3 u8, g8_4 u8), Or.inr ⟨u6, (((s8_q u8), (if kth (fun c => decide (s6_ink u6 c = 0)) i ((s6_cy u6) 5) 0 0 = -1 then 1 else 0), (s8_tr8 u8), (s8_wh u8), (s8_rr u8), (s8_z u8), (s8_nb u8), (s8_wa u8)), g8_1 u8, g8_2 u8, g8_3 u8, g8_4 u8), hp6, List.Perm.refl _, hF, hG, hP, hW⟩, Or.inr ⟨u6, (((s8_q u8), (if kth (fun c => decide (s6_ink u6 c = 0)) i ((s6_cy u6) 5) 0 0 = -1 then 1 else 0), (s8_tr8 u8), (s8_wh u8), (s8_rr u8), (s8_z u8), (s8_nb u8), (s8_wa u8)), g8_1 u8, g8_2 u8, g8_3 u8, g8_4 u8), List.Perm.refl _, List.Perm.refl _, hF, hG, hP, hW⟩, fun h9 => (by have h6 := Ct.perm hp6.symm (Ct.frRI (ws := W6 E x u6) (ws' := W6 E x u6) (c_X6_led l E x (s6_xa u6) (s6_g u6) (s6_tr u6) (s6_fl u6) (s6_pl u6) (s6_cy u6) (s6_ca u6) (s6_hi u6) (s6_hm u6) (s6_t u6) (s6_dd u6) (s6_ink u6) (s6_mn u6) i hc5 hink (by rw [he]; exact h9)) [0, 20, 36, 37, 38] rfl rfl rfl); rw [he] at h6; exact h6), fun h9 => CtX.perm hp6.symm (CtX.frame (c_X6_led_x l E x (s6_xa u6) (s6_g u6) (s6_tr u6) (s6_fl u6) (s6_pl u6) (s6_cy u6) (s6_ca u6) (s6_hi u6) (s6_hm u6) (s6_t u6) (s6_dd u6) (s6_ink u6) (s6_mn u6) i hc5 hink hl (by rw [he]; exact h9)) [0, 20, 36, 37, 38] rfl rfl), ?_, ?_⟩
    · exact Ct.perm hp8.symm (Ct.frI (c_X8_led l E k (s8_th u8) (s8_tr8 u8) (s8_wh u8) (s8_g8 u8) (s8_rr u8) (s8_q u8) (upN (upN (upN (upN (s8_z u8) 6 (s6_fd u6)) 12 (s6_fl u6)) 19 (s6_ac u6)) 20 (s6_im u6)) (s8_nb u8) (s8_wa u8) (s8_wd u8) (s8_ev u8) (s8_al u8) (s8_wl u8) (s6_cy u6) (s8_kp u8) (s8_nc u8) (s8_cb u8) (s6_mn u6) (s6_ink u6) (s6_t u6) (s6_dd u6) i hc5 hink) [0, 10, 2] rfl rfl rfl rfl)
    · exact Ct.frRI (c_X8_thrown l E k (if kth (fun c => decide (s6_ink u6 c = 0)) i ((s6_cy u6) 5) 0 0 = -1 then 1 else 0) (s8_tr8 u8) (s8_wh u8) (s8_g8 u8) (s8_rr u8) (s8_q u8) (upN (upN (upN (upN (s8_z u8) 6 (s6_fd u6)) 12 (s6_fl u6)) 19 (s6_ac u6)) 20 (s6_im u6)) (s8_nb u8) (s8_wa u8) (s8_wd u8) (s8_ev u8) (s8_al u8) (s8_wl u8)) [0] rfl rfl rfl
