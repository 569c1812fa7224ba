theorem ch_1 {men : Nat} {ch : Int32} (h : men = 0) : chT men ch = 1 := if_pos h
theorem ch_0 {men : Nat} {ch : Int32} (h : ¬ men = 0) (h2 : 0 ≤ ch ∧ ch ≤ nI 9) : chT men ch = 0 := (if_neg h).trans (if_pos h2)
theorem ch_2 {men : Nat} {ch : Int32} (h : ¬ men = 0) (h2 : ¬ (0 ≤ ch ∧ ch ≤ nI 9)) : chT men ch = 2 := (if_neg h).trans (if_neg h2)
theorem sd_e {w : Int32} : (0 ≤ w ∧ w ≤ nI 65536) ↔ (0 ≤ w ∧ w < nI 65537) := by
  rw [Int32.le_iff_toInt_le, Int32.le_iff_toInt_le, Int32.lt_iff_toInt_lt, show (nI 65536).toInt = 65536 by decide, show (nI 65537).toInt = 65537 by decide, show (0 : Int32).toInt = 0 from rfl]
  omega
set_option maxRecDepth 100000 in
set_option maxHeartbeats 4000000 in
theorem op_wayAt (l : Launch) (E : Et) (x k : Nat) (p1 : Int32) (p2 : Int32) : OpI E x k (fun w P => Ct l E yX6_wayAt cX6_wayAt 4 (some .int) 6 0 0 [.ref x, .int p1, .int p2] w P) (fun w P => Ct l E yX8_wayAt cX8_wayAt 7 (some .int) 5 0 0 [.ref k, .int p1, .int p2] w P) := by
  intro w6 w8 hv
  rcases hv with hv | hv
  · obtain ⟨u6, u8, hp6, hp8, hF, hN, hW⟩ := hv
    have hfd := hF.1
    have hby := hF.2.1
    have hkw := hF.2.2.1
    have h40z := hF.2.2.2.1
    have h40 := hF.2.2.2.2.1
    have hink2 := hF.2.2.2.2.2.1
    have hwt := hF.2.2.2.2.2.2.1
    have hdy := hF.2.2.2.2.2.2.2.1
    have hds := hF.2.2.2.2.2.2.2.2.1
    have hink := hF.2.2.2.2.2.2.2.2.2.1
    have ht := hF.2.2.2.2.2.2.2.2.2.2.1
    have ho := hF.2.2.2.2.2.2.2.2.2.2.2.1
    have hac := hF.2.2.2.2.2.2.2.2.2.2.2.2.1
    have him := hF.2.2.2.2.2.2.2.2.2.2.2.2.2.1
    have hc0 := hF.2.2.2.2.2.2.2.2.2.2.2.2.2.2.1
    have hc1 := hF.2.2.2.2.2.2.2.2.2.2.2.2.2.2.2.1
    have hc2 := hF.2.2.2.2.2.2.2.2.2.2.2.2.2.2.2.2.1
    have hc3 := hF.2.2.2.2.2.2.2.2.2.2.2.2.2.2.2.2.2.1
    have hc4 := hF.2.2.2.2.2.2.2.2.2.2.2.2.2.2.2.2.2.2.1
    have hc5 := hF.2.2.2.2.2.2.2.2.2.2.2.2.2.2.2.2.2.2.2.1
    have hc6 := hF.2.2.2.2.2.2.2.2.2.2.2.2.2.2.2.2.2.2.2.2.1
    have hc7 := hF.2.2.2.2.2.2.2.2.2.2.2.2.2.2.2.2.2.2.2.2.2
    have htr := hW.1
    have htl := hW.2.1
    have hy0 := hN.1
    have hy3 : (s6_cy u6) 3 = 0 := hy0 3 (by decide)
    have hy4 : (s6_cy u6) 4 = 0 := hy0 4 (by decide)
    have hy5 : (s6_cy u6) 5 = 0 := hy0 5 (by decide)
    have hy6 : (s6_cy u6) 6 = 0 := hy0 6 (by decide)
    refine ⟨(wrI (W6 E x (((s6_g u6), (s6_xa u6), (s6_ra u6), (s6_caz u6), (s6_ca u6), (s6_pq u6), (s6_fl u6), (if okM p1 ((s6_cy u6) 3) ∧ ¬ kth (fun s => (kpN (s6_cy u6) (s6_Fs u6) (s6_Ft u6) (s6_t u6) (bdN (s6_ink u6) (s6_mn u6) p1 0)).testBit s) p2 64 0 0 = (-1) then 0 else 1)), g6_1 u6, g6_2 u6, g6_3 u6, g6_4 u6, g6_5 u6, g6_6 u6, g6_7 u6, g6_8 u6, g6_9 u6, g6_10 u6)) (if okM p1 ((s6_cy u6) 3) then kth (fun s => (kpN (s6_cy u6) (s6_Fs u6) (s6_Ft u6) (s6_t u6) (bdN (s6_ink u6) (s6_mn u6) p1 0)).testBit s) p2 64 0 0 else (-1))), (wrI (W8n E k (((s6_g u6), (s6_xa u6), (s6_ra u6), (s6_caz u6), (s6_ca u6), (s6_pq u6), (s6_fl u6), (if okM p1 ((s6_cy u6) 3) ∧ ¬ kth (fun s => (kpN (s6_cy u6) (s6_Fs u6) (s6_Ft u6) (s6_t u6) (bdN (s6_ink u6) (s6_mn u6) p1 0)).testBit s) p2 64 0 0 = (-1) then 0 else 1)), g6_1 u6, g6_2 u6, g6_3 u6, g6_4 u6, g6_5 u6, g6_6 u6, g6_7 u6, g6_8 u6, g6_9 u6, g6_10 u6) (((s8_q u8), 0, 1, (-1), (s8_rr u8), (s8_z u8), (s8_nb u8), (s8_wa u8)), g8_1 u8, g8_2 u8, g8_3 u8, g8_4 u8)) ((-1))), Ct.perm hp6.symm (Ct.frI (c_X6_wayAt l E x (s6_xa u6) (s6_g u6) (s6_tr u6) (s6_fl u6) (s6_pl u6) (s6_cy u6) (s6_ca u6) (s6_Fs u6) (s6_Ft u6) (s6_hi u6) (s6_hm u6) (s6_t u6) (s6_dd u6) (s6_ink u6) (s6_mn u6) p1 p2 (by first | assumption | omega) (by first | assumption | omega) (by first | assumption | omega) (by first | assumption | omega) (by first | assumption | omega)) [0, 20, 26, 27, 36, 37, 38] rfl rfl rfl rfl), Ct.perm hp8.symm (Ct.frI (c_X8_wayAt_n l E k (s8_th u8) (s8_tr8 u8) (s8_wh u8) (s8_rr u8) (s8_q u8) (upN (upN (upN (upN (s8_z u8) 6 (s6_fd u6)) 12 (s6_fl u6)) 19 (s6_ac u6)) 20 (s6_im u6)) (s8_nb u8) (s8_wa u8) (s8_wd u8) (s8_ev u8) (s8_al u8) (s8_wl u8) p1 p2 ) [0] rfl rfl rfl rfl), fun r w h => ⟨_, h.2⟩, ?_⟩
    rintro r w r' w' ⟨rfl, rfl⟩ ⟨rfl, rfl⟩
    exact ⟨congrArg (fun z => some (Value.int z)) (if_neg (okM_0 hy3)), Or.inl ⟨(((s6_g u6), (s6_xa u6), (s6_ra u6), (s6_caz u6), (s6_ca u6), (s6_pq u6), (s6_fl u6), (if okM p1 ((s6_cy u6) 3) ∧ ¬ kth (fun s => (kpN (s6_cy u6) (s6_Fs u6) (s6_Ft u6) (s6_t u6) (bdN (s6_ink u6) (s6_mn u6) p1 0)).testBit s) p2 64 0 0 = (-1) then 0 else 1)), g6_1 u6, g6_2 u6, g6_3 u6, g6_4 u6, g6_5 u6, g6_6 u6, g6_7 u6, g6_8 u6, g6_9 u6, g6_10 u6), (((s8_q u8), 0, 1, (-1), (s8_rr u8), (s8_z u8), (s8_nb u8), (s8_wa u8)), g8_1 u8, g8_2 u8, g8_3 u8, g8_4 u8), List.Perm.refl _, List.Perm.refl _, hF, hN, tw_of 1 ((if_neg (fun z => okM_0 hy3 z.1)).symm) (by decide) (by decide)⟩⟩
  · obtain ⟨u6, u8, hp6, hp8, hF, hG, hP, hW⟩ := hv
    have hfd := hF.1
    have hby := hF.2.1
    have hkw := hF.2.2.1
    have h40z := hF.2.2.2.1
    have h40 := hF.2.2.2.2.1
    have hink2 := hF.2.2.2.2.2.1
    have hwt := hF.2.2.2.2.2.2.1
    have hdy := hF.2.2.2.2.2.2.2.1
    have hds := hF.2.2.2.2.2.2.2.2.1
    have hink := hF.2.2.2.2.2.2.2.2.2.1
    have ht := hF.2.2.2.2.2.2.2.2.2.2.1
    have ho := hF.2.2.2.2.2.2.2.2.2.2.2.1
    have hac := hF.2.2.2.2.2.2.2.2.2.2.2.2.1
    have him := hF.2.2.2.2.2.2.2.2.2.2.2.2.2.1
    have hc0 := hF.2.2.2.2.2.2.2.2.2.2.2.2.2.2.1
    have hc1 := hF.2.2.2.2.2.2.2.2.2.2.2.2.2.2.2.1
    have hc2 := hF.2.2.2.2.2.2.2.2.2.2.2.2.2.2.2.2.1
    have hc3 := hF.2.2.2.2.2.2.2.2.2.2.2.2.2.2.2.2.2.1
    have hc4 := hF.2.2.2.2.2.2.2.2.2.2.2.2.2.2.2.2.2.2.1
    have hc5 := hF.2.2.2.2.2.2.2.2.2.2.2.2.2.2.2.2.2.2.2.1
    have hc6 := hF.2.2.2.2.2.2.2.2.2.2.2.2.2.2.2.2.2.2.2.2.1
    have hc7 := hF.2.2.2.2.2.2.2.2.2.2.2.2.2.2.2.2.2.2.2.2.2
    have htr := hW.1
    have htl := hW.2.1
    have hgb := g8_b hc4 hc5 hc7 hG
    have hfo := hgb.1
    have hon := hgb.2.1
    have htw := hgb.2.2.1
    have hFs := hgb.2.2.2.1
    have hFt := hgb.2.2.2.2.1
    have hik := hgb.2.2.2.2.2.1
    have hun := hgb.2.2.2.2.2.2.1
    have hdi := hgb.2.2.2.2.2.2.2.1
    have hd2 := hgb.2.2.2.2.2.2.2.2.1
    have hd3 := hgb.2.2.2.2.2.2.2.2.2.1
    have hkp := hgb.2.2.2.2.2.2.2.2.2.2.1
    have hm1 := hgb.2.2.2.2.2.2.2.2.2.2.2.1
    have hal_ := hgb.2.2.2.2.2.2.2.2.2.2.2.2
    have hal := hal_ (s6_t u6)
    have hz : ∀ c, (s6_cy u6) 5 ≤ c → (s6_ink u6) c = 0 := hP.1.2.1
    have hmz : ∀ c, (s6_cy u6) 5 ≤ c → (s6_mn u6) c = -1 := hP.1.2.2.1
    have hdd9 : (s6_dd u6) ≤ 999 := hP.1.2.2.2.2
    have hw8 := w8_e hG
    have h30 : ¬ (s6_cy u6) 3 = 0 := by omega
    by_cases hok : okM p1 ((s6_cy u6) 3)
    · refine ⟨(wrI (W6 E x (((s6_g u6), (s6_xa u6), (s6_ra u6), (s6_caz u6), (s6_ca u6), (s6_pq u6), (s6_fl u6), (if okM p1 ((s6_cy u6) 3) ∧ ¬ kth (fun s => (kpN (s6_cy u6) (s6_Fs u6) (s6_Ft u6) (s6_t u6) (bdN (s6_ink u6) (s6_mn u6) p1 0)).testBit s) p2 64 0 0 = (-1) then 0 else 1)), g6_1 u6, g6_2 u6, g6_3 u6, g6_4 u6, g6_5 u6, g6_6 u6, g6_7 u6, g6_8 u6, g6_9 u6, g6_10 u6)) (if okM p1 ((s6_cy u6) 3) then kth (fun s => (kpN (s6_cy u6) (s6_Fs u6) (s6_Ft u6) (s6_t u6) (bdN (s6_ink u6) (s6_mn u6) p1 0)).testBit s) p2 64 0 0 else (-1))), (wrI (W8c E k (((s6_g u6), (s6_xa u6), (s6_ra u6), (s6_caz u6), (s6_ca u6), (s6_pq u6), (s6_fl u6), (if okM p1 ((s6_cy u6) 3) ∧ ¬ kth (fun s => (kpN (s6_cy u6) (s6_Fs u6) (s6_Ft u6) (s6_t u6) (bdN (s6_ink u6) (s6_mn u6) p1 0)).testBit s) p2 64 0 0 = (-1) then 0 else 1)), g6_1 u6, g6_2 u6, g6_3 u6, g6_4 u6, g6_5 u6, g6_6 u6, g6_7 u6, g6_8 u6, g6_9 u6, g6_10 u6) (((s8_q u8), 0, (if kth (fun s => (kpN (s6_cy u6) (s6_Fs u6) (s6_Ft u6) (s6_t u6) (bdN (s6_ink u6) (s6_mn u6) p1 0)).testBit s) p2 (2 ^ (s6_cy u6) 4) 0 0 = (-1) then 1 else 0), (-1), (s8_rr u8), (s8_z u8), (s8_nb u8), (s8_wa u8)), ((s8_wd u8), (allS ((s6_cy u6) 4)), (s8_al u8), (s8_wl u8), (xF (s6_mn u6) (s6_ink u6) (s6_t u6) (s6_dd u6)), (s8_pp u8), (s8_pj8 u8), (lyF (s6_Fs u6) (s6_Ft u6) (s6_t u6) ((s6_cy u6) 4) (s8_ke u8) ((s6_cy u6) 5))), g8_2 u8, g8_3 u8, g8_4 u8)) (kth (fun s => (kpN (s6_cy u6) (s6_Fs u6) (s6_Ft u6) (s6_t u6) (bdN (s6_ink u6) (s6_mn u6) p1 0)).testBit s) p2 (2 ^ (s6_cy u6) 4) 0 0)), Ct.perm hp6.symm (Ct.frI (c_X6_wayAt l E x (s6_xa u6) (s6_g u6) (s6_tr u6) (s6_fl u6) (s6_pl u6) (s6_cy u6) (s6_ca u6) (s6_Fs u6) (s6_Ft u6) (s6_hi u6) (s6_hm u6) (s6_t u6) (s6_dd u6) (s6_ink u6) (s6_mn u6) p1 p2 (by first | assumption | omega) (by first | assumption | omega) (by first | assumption | omega) (by first | assumption | omega) (by first | assumption | omega)) [0, 20, 26, 27, 36, 37, 38] rfl rfl rfl rfl), Ct.perm hp8.symm (Ct.frI (c_X8_wayAt l E k (s8_th u8) (s8_tr8 u8) (s8_wh u8) (s8_g8 u8) (s8_rr u8) (s8_q u8) (upN (upN (upN (upN (s8_z u8) 6 (s6_fd u6)) 12 (s6_fl u6)) 19 (s6_ac u6)) 20 (s6_im u6)) (s8_nb u8) (s8_wa u8) (s8_wd u8) (s8_ev u8) (s8_al u8) (s8_wl u8) (s6_cy u6) (s8_kp u8) (s8_nc u8) (s8_cb u8) (s8_gf u8) (s8_go_ u8) (s8_gt_ u8) (s8_xf u8) (s6_mn u6) (s6_ink u6) (s6_t u6) (s6_dd u6) (s6_Fs u6) (s6_Ft u6) (s8_ke u8) p1 p2 (by first | assumption | omega) (by first | assumption | omega) (by first | assumption | omega) (by first | assumption | omega) (by first | assumption | omega) (by first | assumption | omega) (by first | assumption | omega) (by first | assumption | omega) (by first | assumption | omega) (by first | assumption | omega)) [0, 10, 13, 14, 15, 2, 3, 6] rfl rfl rfl rfl), fun r w h => ⟨_, h.2⟩, ?_⟩
      rintro r w r' w' ⟨rfl, rfl⟩ ⟨rfl, rfl⟩
      exact ⟨congrArg (fun z => some (Value.int z)) ((if_pos hok).trans (kth_64 hc4)), Or.inr ⟨(((s6_g u6), (s6_xa u6), (s6_ra u6), (s6_caz u6), (s6_ca u6), (s6_pq u6), (s6_fl u6), (if okM p1 ((s6_cy u6) 3) ∧ ¬ kth (fun s => (kpN (s6_cy u6) (s6_Fs u6) (s6_Ft u6) (s6_t u6) (bdN (s6_ink u6) (s6_mn u6) p1 0)).testBit s) p2 64 0 0 = (-1) then 0 else 1)), g6_1 u6, g6_2 u6, g6_3 u6, g6_4 u6, g6_5 u6, g6_6 u6, g6_7 u6, g6_8 u6, g6_9 u6, g6_10 u6), (((s8_q u8), 0, (if kth (fun s => (kpN (s6_cy u6) (s6_Fs u6) (s6_Ft u6) (s6_t u6) (bdN (s6_ink u6) (s6_mn u6) p1 0)).testBit s) p2 (2 ^ (s6_cy u6) 4) 0 0 = (-1) then 1 else 0), (-1), (s8_rr u8), (s8_z u8), (s8_nb u8), (s8_wa u8)), ((s8_wd u8), (allS ((s6_cy u6) 4)), (s8_al u8), (s8_wl u8), (xF (s6_mn u6) (s6_ink u6) (s6_t u6) (s6_dd u6)), (s8_pp u8), (s8_pj8 u8), (lyF (s6_Fs u6) (s6_Ft u6) (s6_t u6) ((s6_cy u6) 4) (s8_ke u8) ((s6_cy u6) 5))), g8_2 u8, g8_3 u8, g8_4 u8), List.Perm.refl _, List.Perm.refl _, hF, hG, hP, tw_of (if kth (fun s => (kpN (s6_cy u6) (s6_Fs u6) (s6_Ft u6) (s6_t u6) (bdN (s6_ink u6) (s6_mn u6) p1 0)).testBit s) p2 (2 ^ (s6_cy u6) 4) 0 0 = (-1) then 1 else 0) ((sw_w hok).trans (by rw [kth_64 hc4])) (by split <;> decide) (by split <;> decide)⟩⟩
    · refine ⟨(wrI (W6 E x (((s6_g u6), (s6_xa u6), (s6_ra u6), (s6_caz u6), (s6_ca u6), (s6_pq u6), (s6_fl u6), (if okM p1 ((s6_cy u6) 3) ∧ ¬ kth (fun s => (kpN (s6_cy u6) (s6_Fs u6) (s6_Ft u6) (s6_t u6) (bdN (s6_ink u6) (s6_mn u6) p1 0)).testBit s) p2 64 0 0 = (-1) then 0 else 1)), g6_1 u6, g6_2 u6, g6_3 u6, g6_4 u6, g6_5 u6, g6_6 u6, g6_7 u6, g6_8 u6, g6_9 u6, g6_10 u6)) (if okM p1 ((s6_cy u6) 3) then kth (fun s => (kpN (s6_cy u6) (s6_Fs u6) (s6_Ft u6) (s6_t u6) (bdN (s6_ink u6) (s6_mn u6) p1 0)).testBit s) p2 64 0 0 else (-1))), (wrI (W8c E k (((s6_g u6), (s6_xa u6), (s6_ra u6), (s6_caz u6), (s6_ca u6), (s6_pq u6), (s6_fl u6), (if okM p1 ((s6_cy u6) 3) ∧ ¬ kth (fun s => (kpN (s6_cy u6) (s6_Fs u6) (s6_Ft u6) (s6_t u6) (bdN (s6_ink u6) (s6_mn u6) p1 0)).testBit s) p2 64 0 0 = (-1) then 0 else 1)), g6_1 u6, g6_2 u6, g6_3 u6, g6_4 u6, g6_5 u6, g6_6 u6, g6_7 u6, g6_8 u6, g6_9 u6, g6_10 u6) (((s8_q u8), 0, 1, (-1), (s8_rr u8), (s8_z u8), (s8_nb u8), (s8_wa u8)), g8_1 u8, g8_2 u8, g8_3 u8, g8_4 u8)) ((-1))), Ct.perm hp6.symm (Ct.frI (c_X6_wayAt l E x (s6_xa u6) (s6_g u6) (s6_tr u6) (s6_fl u6) (s6_pl u6) (s6_cy u6) (s6_ca u6) (s6_Fs u6) (s6_Ft u6) (s6_hi u6) (s6_hm u6) (s6_t u6) (s6_dd u6) (s6_ink u6) (s6_mn u6) p1 p2 (by first | assumption | omega) (by first | assumption | omega) (by first | assumption | omega) (by first | assumption | omega) (by first | assumption | omega)) [0, 20, 26, 27, 36, 37, 38] rfl rfl rfl rfl), Ct.perm hp8.symm (Ct.frI (c_X8_wayAt_no l E k (s8_th u8) (s8_tr8 u8) (s8_wh u8) (s8_g8 u8) (s8_rr u8) (s8_q u8) (upN (upN (upN (upN (s8_z u8) 6 (s6_fd u6)) 12 (s6_fl u6)) 19 (s6_ac u6)) 20 (s6_im u6)) (s8_nb u8) (s8_wa u8) (s8_wd u8) (s8_ev u8) (s8_al u8) (s8_wl u8) (s6_cy u6) (s8_kp u8) (s8_nc u8) (s8_cb u8) p1 p2 (by first | assumption | omega)) [0, 10] rfl rfl rfl rfl), fun r w h => ⟨_, h.2⟩, ?_⟩
      rintro r w r' w' ⟨rfl, rfl⟩ ⟨rfl, rfl⟩
      exact ⟨congrArg (fun z => some (Value.int z)) (if_neg hok), Or.inr ⟨(((s6_g u6), (s6_xa u6), (s6_ra u6), (s6_caz u6), (s6_ca u6), (s6_pq u6), (s6_fl u6), (if okM p1 ((s6_cy u6) 3) ∧ ¬ kth (fun s => (kpN (s6_cy u6) (s6_Fs u6) (s6_Ft u6) (s6_t u6) (bdN (s6_ink u6) (s6_mn u6) p1 0)).testBit s) p2 64 0 0 = (-1) then 0 else 1)), g6_1 u6, g6_2 u6, g6_3 u6, g6_4 u6, g6_5 u6, g6_6 u6, g6_7 u6, g6_8 u6, g6_9 u6, g6_10 u6), (((s8_q u8), 0, 1, (-1), (s8_rr u8), (s8_z u8), (s8_nb u8), (s8_wa u8)), g8_1 u8, g8_2 u8, g8_3 u8, g8_4 u8), List.Perm.refl _, List.Perm.refl _, hF, hG, hP, tw_of 1 ((if_neg (fun z => hok z.1)).symm) (by decide) (by decide)⟩⟩
set_option maxRecDepth 100000 in
set_option maxHeartbeats 4000000 in
theorem op_fitAt (l : Launch) (E : Et) (x k : Nat) (p1 : Int32) : OpI E x k (fun w P => Ct l E yX6_fitAt cX6_fitAt 3 (some .int) 6 0 0 [.ref x, .int p1] w P) (fun w P => Ct l E yX8_fitAt cX8_fitAt 3 (some .int) 5 0 0 [.ref k, .int p1] w P) := by
  intro w6 w8 hv
  rcases hv with hv | hv
  · obtain ⟨u6, u8, hp6, hp8, hF, hN, hW⟩ := hv
    have hfd := hF.1
    have hby := hF.2.1
    have hkw := hF.2.2.1
    have h40z := hF.2.2.2.1
    have h40 := hF.2.2.2.2.1
    have hink2 := hF.2.2.2.2.2.1
    have hwt := hF.2.2.2.2.2.2.1
    have hdy := hF.2.2.2.2.2.2.2.1
    have hds := hF.2.2.2.2.2.2.2.2.1
    have hink := hF.2.2.2.2.2.2.2.2.2.1
    have ht := hF.2.2.2.2.2.2.2.2.2.2.1
    have ho := hF.2.2.2.2.2.2.2.2.2.2.2.1
    have hac := hF.2.2.2.2.2.2.2.2.2.2.2.2.1
    have him := hF.2.2.2.2.2.2.2.2.2.2.2.2.2.1
    have hc0 := hF.2.2.2.2.2.2.2.2.2.2.2.2.2.2.1
    have hc1 := hF.2.2.2.2.2.2.2.2.2.2.2.2.2.2.2.1
    have hc2 := hF.2.2.2.2.2.2.2.2.2.2.2.2.2.2.2.2.1
    have hc3 := hF.2.2.2.2.2.2.2.2.2.2.2.2.2.2.2.2.2.1
    have hc4 := hF.2.2.2.2.2.2.2.2.2.2.2.2.2.2.2.2.2.2.1
    have hc5 := hF.2.2.2.2.2.2.2.2.2.2.2.2.2.2.2.2.2.2.2.1
    have hc6 := hF.2.2.2.2.2.2.2.2.2.2.2.2.2.2.2.2.2.2.2.2.1
    have hc7 := hF.2.2.2.2.2.2.2.2.2.2.2.2.2.2.2.2.2.2.2.2.2
    have htr := hW.1
    have htl := hW.2.1
    have hy0 := hN.1
    have hy3 : (s6_cy u6) 3 = 0 := hy0 3 (by decide)
    have hy4 : (s6_cy u6) 4 = 0 := hy0 4 (by decide)
    have hy5 : (s6_cy u6) 5 = 0 := hy0 5 (by decide)
    have hy6 : (s6_cy u6) 6 = 0 := hy0 6 (by decide)
    refine ⟨(wrI (W6 E x (((s6_g u6), (s6_xa u6), (s6_ra u6), (s6_caz u6), (s6_ca u6), (s6_pq u6), (s6_fl u6), (if ¬ (s6_cy u6) 3 = 0 ∧ ¬ kth (fun s => (fitN (s6_wt u6)).testBit s) p1 64 0 0 = (-1) then 0 else 1)), g6_1 u6, g6_2 u6, g6_3 u6, g6_4 u6, g6_5 u6, g6_6 u6, g6_7 u6, g6_8 u6, g6_9 u6, g6_10 u6)) (if (s6_cy u6) 3 = 0 then (-1) else kth (fun s => (fitN (s6_wt u6)).testBit s) p1 64 0 0)), (wrI (W8n E k (((s6_g u6), (s6_xa u6), (s6_ra u6), (s6_caz u6), (s6_ca u6), (s6_pq u6), (s6_fl u6), (if ¬ (s6_cy u6) 3 = 0 ∧ ¬ kth (fun s => (fitN (s6_wt u6)).testBit s) p1 64 0 0 = (-1) then 0 else 1)), g6_1 u6, g6_2 u6, g6_3 u6, g6_4 u6, g6_5 u6, g6_6 u6, g6_7 u6, g6_8 u6, g6_9 u6, g6_10 u6) (((s8_q u8), 0, 1, (-1), (s8_rr u8), (s8_z u8), (s8_nb u8), (s8_wa u8)), g8_1 u8, g8_2 u8, g8_3 u8, g8_4 u8)) ((-1))), Ct.perm hp6.symm (Ct.frI (c_X6_fitAt l E x (s6_xa u6) (s6_g u6) (s6_tr u6) (s6_fl u6) (s6_pl u6) (s6_cy u6) (s6_ca u6) (s6_hw u6) (s6_wt u6) p1 (by first | assumption | omega) (by first | assumption | omega)) [0, 20, 45, 46] rfl rfl rfl rfl), Ct.perm hp8.symm (Ct.frI (c_X8_fitAt_n l E k (s8_th u8) (s8_tr8 u8) (s8_wh u8) (s8_rr u8) (s8_q u8) (upN (upN (upN (upN (s8_z u8) 6 (s6_fd u6)) 12 (s6_fl u6)) 19 (s6_ac u6)) 20 (s6_im u6)) (s8_nb u8) (s8_wa u8) (s8_wd u8) (s8_ev u8) (s8_al u8) (s8_wl u8) p1 ) [0] rfl rfl rfl rfl), fun r w h => ⟨_, h.2⟩, ?_⟩
    rintro r w r' w' ⟨rfl, rfl⟩ ⟨rfl, rfl⟩
    exact ⟨congrArg (fun z => some (Value.int z)) (if_pos hy3), Or.inl ⟨(((s6_g u6), (s6_xa u6), (s6_ra u6), (s6_caz u6), (s6_ca u6), (s6_pq u6), (s6_fl u6), (if ¬ (s6_cy u6) 3 = 0 ∧ ¬ kth (fun s => (fitN (s6_wt u6)).testBit s) p1 64 0 0 = (-1) then 0 else 1)), g6_1 u6, g6_2 u6, g6_3 u6, g6_4 u6, g6_5 u6, g6_6 u6, g6_7 u6, g6_8 u6, g6_9 u6, g6_10 u6), (((s8_q u8), 0, 1, (-1), (s8_rr u8), (s8_z u8), (s8_nb u8), (s8_wa u8)), g8_1 u8, g8_2 u8, g8_3 u8, g8_4 u8), List.Perm.refl _, List.Perm.refl _, hF, hN, tw_of 1 ((if_neg (fun z => z.1 hy3)).symm) (by decide) (by decide)⟩⟩
  · obtain ⟨u6, u8, hp6, hp8, hF, hG, hP, hW⟩ := hv
    have hfd := hF.1
    have hby := hF.2.1
    have hkw := hF.2.2.1
    have h40z := hF.2.2.2.1
    have h40 := hF.2.2.2.2.1
    have hink2 := hF.2.2.2.2.2.1
    have hwt := hF.2.2.2.2.2.2.1
    have hdy := hF.2.2.2.2.2.2.2.1
    have hds := hF.2.2.2.2.2.2.2.2.1
    have hink := hF.2.2.2.2.2.2.2.2.2.1
    have ht := hF.2.2.2.2.2.2.2.2.2.2.1
    have ho := hF.2.2.2.2.2.2.2.2.2.2.2.1
    have hac := hF.2.2.2.2.2.2.2.2.2.2.2.2.1
    have him := hF.2.2.2.2.2.2.2.2.2.2.2.2.2.1
    have hc0 := hF.2.2.2.2.2.2.2.2.2.2.2.2.2.2.1
    have hc1 := hF.2.2.2.2.2.2.2.2.2.2.2.2.2.2.2.1
    have hc2 := hF.2.2.2.2.2.2.2.2.2.2.2.2.2.2.2.2.1
    have hc3 := hF.2.2.2.2.2.2.2.2.2.2.2.2.2.2.2.2.2.1
    have hc4 := hF.2.2.2.2.2.2.2.2.2.2.2.2.2.2.2.2.2.2.1
    have hc5 := hF.2.2.2.2.2.2.2.2.2.2.2.2.2.2.2.2.2.2.2.1
    have hc6 := hF.2.2.2.2.2.2.2.2.2.2.2.2.2.2.2.2.2.2.2.2.1
    have hc7 := hF.2.2.2.2.2.2.2.2.2.2.2.2.2.2.2.2.2.2.2.2.2
    have htr := hW.1
    have htl := hW.2.1
    have hgb := g8_b hc4 hc5 hc7 hG
    have hfo := hgb.1
    have hon := hgb.2.1
    have htw := hgb.2.2.1
    have hFs := hgb.2.2.2.1
    have hFt := hgb.2.2.2.2.1
    have hik := hgb.2.2.2.2.2.1
    have hun := hgb.2.2.2.2.2.2.1
    have hdi := hgb.2.2.2.2.2.2.2.1
    have hd2 := hgb.2.2.2.2.2.2.2.2.1
    have hd3 := hgb.2.2.2.2.2.2.2.2.2.1
    have hkp := hgb.2.2.2.2.2.2.2.2.2.2.1
    have hm1 := hgb.2.2.2.2.2.2.2.2.2.2.2.1
    have hal_ := hgb.2.2.2.2.2.2.2.2.2.2.2.2
    have hal := hal_ (s6_t u6)
    have hz : ∀ c, (s6_cy u6) 5 ≤ c → (s6_ink u6) c = 0 := hP.1.2.1
    have hmz : ∀ c, (s6_cy u6) 5 ≤ c → (s6_mn u6) c = -1 := hP.1.2.2.1
    have hdd9 : (s6_dd u6) ≤ 999 := hP.1.2.2.2.2
    have hw8 := w8_e hG
    have h30 : ¬ (s6_cy u6) 3 = 0 := by omega
    by_cases hi0 : 0 ≤ p1
    · refine ⟨(wrI (W6 E x (((s6_g u6), (s6_xa u6), (s6_ra u6), (s6_caz u6), (s6_ca u6), (s6_pq u6), (s6_fl u6), (if ¬ (s6_cy u6) 3 = 0 ∧ ¬ kth (fun s => (fitN (s6_wt u6)).testBit s) p1 64 0 0 = (-1) then 0 else 1)), g6_1 u6, g6_2 u6, g6_3 u6, g6_4 u6, g6_5 u6, g6_6 u6, g6_7 u6, g6_8 u6, g6_9 u6, g6_10 u6)) (if (s6_cy u6) 3 = 0 then (-1) else kth (fun s => (fitN (s6_wt u6)).testBit s) p1 64 0 0)), (jwrI (fun jp => W8c E k (((s6_g u6), (s6_xa u6), (s6_ra u6), (s6_caz u6), (s6_ca u6), (s6_pq u6), (s6_fl u6), (if ¬ (s6_cy u6) 3 = 0 ∧ ¬ kth (fun s => (fitN (s6_wt u6)).testBit s) p1 64 0 0 = (-1) then 0 else 1)), g6_1 u6, g6_2 u6, g6_3 u6, g6_4 u6, g6_5 u6, g6_6 u6, g6_7 u6, g6_8 u6, g6_9 u6, g6_10 u6) (((s8_q u8), 0, (if kth (fun s => (fitN (wt8 (s6_cy u6) (s6_Fs u6) (s6_Ft u6) (s8_d1 u8) (s8_d2_ u8) (s8_d3 u8) (s8_kp u8) (s8_gm u8) (s8_gi u8) (s8_un u8))).testBit s) p1 64 0 0 = (-1) then 1 else 0), (-1), (s8_rr u8), (upN (s8_z u8) 25 (cnt (fun s => decide (0 < wt8 (s6_cy u6) (s6_Fs u6) (s6_Ft u6) (s8_d1 u8) (s8_d2_ u8) (s8_d3 u8) (s8_kp u8) (s8_gm u8) (s8_gi u8) (s8_un u8) s)) (2 ^ (s6_cy u6) 6))), (s8_nb u8), (s8_wa u8)), ((s8_wd u8), (s8_ev u8), (s8_al u8), (s8_wl u8), jp, (s8_pp u8), (s8_pj8 u8), (s8_ke u8)), ((s8_g2 u8), (s8_hv u8), (fun k => if k < (s6_cy u6) 6 then cnt (fun s => decide (0 < wt8 (s6_cy u6) (s6_Fs u6) (s6_Ft u6) (s8_d1 u8) (s8_d2_ u8) (s8_d3 u8) (s8_kp u8) (s8_gm u8) (s8_gi u8) (s8_un u8) s) && s.testBit k) (2 ^ (s6_cy u6) 6) else 0), (s8_vf u8), (s8_g8 u8), (s8_cb u8), (s8_kp u8), (s8_nc u8)), g8_3 u8, g8_4 u8)) (kth (fun s => (fitN (wt8 (s6_cy u6) (s6_Fs u6) (s6_Ft u6) (s8_d1 u8) (s8_d2_ u8) (s8_d3 u8) (s8_kp u8) (s8_gm u8) (s8_gi u8) (s8_un u8))).testBit s) p1 64 0 0)), Ct.perm hp6.symm (Ct.frI (c_X6_fitAt l E x (s6_xa u6) (s6_g u6) (s6_tr u6) (s6_fl u6) (s6_pl u6) (s6_cy u6) (s6_ca u6) (s6_hw u6) (s6_wt u6) p1 (by first | assumption | omega) (by first | assumption | omega)) [0, 20, 45, 46] rfl rfl rfl rfl), Ct.perm hp8.symm (Ct.fjI (c_X8_fitAt l E k (s8_th u8) (s8_tr8 u8) (s8_wh u8) (s8_g8 u8) (s8_rr u8) (s8_q u8) (upN (upN (upN (upN (s8_z u8) 6 (s6_fd u6)) 12 (s6_fl u6)) 19 (s6_ac u6)) 20 (s6_im u6)) (s8_nb u8) (s8_wa u8) (s8_wd u8) (s8_ev u8) (s8_al u8) (s8_wl u8) (s6_cy u6) (s8_kp u8) (s8_nc u8) (s8_cb u8) (s8_gm u8) (s8_gi u8) (s8_gf u8) (s8_go_ u8) (s8_gt_ u8) (s8_un u8) (s8_d1 u8) (s8_d2_ u8) (s8_d3 u8) (s8_xf u8) (s6_Fs u6) (s6_Ft u6) ((s8_z u8) 25) (s8_ti u8) p1 (by first | assumption | omega) (by first | assumption | omega) (by first | assumption | omega) (by first | assumption | omega) (by first | assumption | omega) (by first | assumption | omega) (by first | assumption | omega) (by first | assumption | omega) (by first | assumption | omega) (by first | assumption | omega) (by first | assumption | omega) (by first | assumption | omega) (by first | assumption | omega) (by first | assumption | omega) (by first | assumption | omega) (by first | assumption | omega) (by first | assumption | omega) (by first | assumption | omega)) [0, 10, 11, 12, 13, 14, 15, 16, 17, 18, 19, 3, 9] rfl rfl (fun _ => rfl) (fun _ => rfl)), fun r w h => ⟨_, h.2⟩, ?_⟩
      rintro r w r' w' ⟨rfl, rfl⟩ ⟨⟨jp, rfl⟩, rfl⟩
      exact ⟨congrArg (fun z => some (Value.int z)) ((if_neg h30).trans (by rw [hw8])), Or.inr ⟨(((s6_g u6), (s6_xa u6), (s6_ra u6), (s6_caz u6), (s6_ca u6), (s6_pq u6), (s6_fl u6), (if ¬ (s6_cy u6) 3 = 0 ∧ ¬ kth (fun s => (fitN (s6_wt u6)).testBit s) p1 64 0 0 = (-1) then 0 else 1)), g6_1 u6, g6_2 u6, g6_3 u6, g6_4 u6, g6_5 u6, g6_6 u6, g6_7 u6, g6_8 u6, g6_9 u6, g6_10 u6), (((s8_q u8), 0, (if kth (fun s => (fitN (wt8 (s6_cy u6) (s6_Fs u6) (s6_Ft u6) (s8_d1 u8) (s8_d2_ u8) (s8_d3 u8) (s8_kp u8) (s8_gm u8) (s8_gi u8) (s8_un u8))).testBit s) p1 64 0 0 = (-1) then 1 else 0), (-1), (s8_rr u8), (upN (s8_z u8) 25 (cnt (fun s => decide (0 < wt8 (s6_cy u6) (s6_Fs u6) (s6_Ft u6) (s8_d1 u8) (s8_d2_ u8) (s8_d3 u8) (s8_kp u8) (s8_gm u8) (s8_gi u8) (s8_un u8) s)) (2 ^ (s6_cy u6) 6))), (s8_nb u8), (s8_wa u8)), ((s8_wd u8), (s8_ev u8), (s8_al u8), (s8_wl u8), jp, (s8_pp u8), (s8_pj8 u8), (s8_ke u8)), ((s8_g2 u8), (s8_hv u8), (fun k => if k < (s6_cy u6) 6 then cnt (fun s => decide (0 < wt8 (s6_cy u6) (s6_Fs u6) (s6_Ft u6) (s8_d1 u8) (s8_d2_ u8) (s8_d3 u8) (s8_kp u8) (s8_gm u8) (s8_gi u8) (s8_un u8) s) && s.testBit k) (2 ^ (s6_cy u6) 6) else 0), (s8_vf u8), (s8_g8 u8), (s8_cb u8), (s8_kp u8), (s8_nc u8)), g8_3 u8, g8_4 u8), List.Perm.refl _, List.Perm.refl _, hF, hG, hP, tw_of (if kth (fun s => (fitN (wt8 (s6_cy u6) (s6_Fs u6) (s6_Ft u6) (s8_d1 u8) (s8_d2_ u8) (s8_d3 u8) (s8_kp u8) (s8_gm u8) (s8_gi u8) (s8_un u8))).testBit s) p1 64 0 0 = (-1) then 1 else 0) ((sw_w h30).trans (by rw [hw8])) (by split <;> decide) (by split <;> decide)⟩⟩
    · refine ⟨(wrI (W6 E x (((s6_g u6), (s6_xa u6), (s6_ra u6), (s6_caz u6), (s6_ca u6), (s6_pq u6), (s6_fl u6), (if ¬ (s6_cy u6) 3 = 0 ∧ ¬ kth (fun s => (fitN (s6_wt u6)).testBit s) p1 64 0 0 = (-1) then 0 else 1)), g6_1 u6, g6_2 u6, g6_3 u6, g6_4 u6, g6_5 u6, g6_6 u6, g6_7 u6, g6_8 u6, g6_9 u6, g6_10 u6)) (if (s6_cy u6) 3 = 0 then (-1) else kth (fun s => (fitN (s6_wt u6)).testBit s) p1 64 0 0)), (wrI (W8c E k (((s6_g u6), (s6_xa u6), (s6_ra u6), (s6_caz u6), (s6_ca u6), (s6_pq u6), (s6_fl u6), (if ¬ (s6_cy u6) 3 = 0 ∧ ¬ kth (fun s => (fitN (s6_wt u6)).testBit s) p1 64 0 0 = (-1) then 0 else 1)), g6_1 u6, g6_2 u6, g6_3 u6, g6_4 u6, g6_5 u6, g6_6 u6, g6_7 u6, g6_8 u6, g6_9 u6, g6_10 u6) (((s8_q u8), 0, 1, (-1), (s8_rr u8), (s8_z u8), (s8_nb u8), (s8_wa u8)), g8_1 u8, g8_2 u8, g8_3 u8, g8_4 u8)) ((-1))), Ct.perm hp6.symm (Ct.frI (c_X6_fitAt l E x (s6_xa u6) (s6_g u6) (s6_tr u6) (s6_fl u6) (s6_pl u6) (s6_cy u6) (s6_ca u6) (s6_hw u6) (s6_wt u6) p1 (by first | assumption | omega) (by first | assumption | omega)) [0, 20, 45, 46] rfl rfl rfl rfl), Ct.perm hp8.symm (Ct.frI (c_X8_fitAt_no l E k (s8_th u8) (s8_tr8 u8) (s8_wh u8) (s8_g8 u8) (s8_rr u8) (s8_q u8) (upN (upN (upN (upN (s8_z u8) 6 (s6_fd u6)) 12 (s6_fl u6)) 19 (s6_ac u6)) 20 (s6_im u6)) (s8_nb u8) (s8_wa u8) (s8_wd u8) (s8_ev u8) (s8_al u8) (s8_wl u8) (s6_cy u6) (s8_kp u8) (s8_nc u8) (s8_cb u8) p1 (by first | assumption | omega)) [0, 10] rfl rfl rfl rfl), fun r w h => ⟨_, h.2⟩, ?_⟩
      rintro r w r' w' ⟨rfl, rfl⟩ ⟨rfl, rfl⟩
      exact ⟨congrArg (fun z => some (Value.int z)) ((if_neg h30).trans (kth_ng hi0 _ _ _ (by decide))), Or.inr ⟨(((s6_g u6), (s6_xa u6), (s6_ra u6), (s6_caz u6), (s6_ca u6), (s6_pq u6), (s6_fl u6), (if ¬ (s6_cy u6) 3 = 0 ∧ ¬ kth (fun s => (fitN (s6_wt u6)).testBit s) p1 64 0 0 = (-1) then 0 else 1)), g6_1 u6, g6_2 u6, g6_3 u6, g6_4 u6, g6_5 u6, g6_6 u6, g6_7 u6, g6_8 u6, g6_9 u6, g6_10 u6), (((s8_q u8), 0, 1, (-1), (s8_rr u8), (s8_z u8), (s8_nb u8), (s8_wa u8)), g8_1 u8, g8_2 u8, g8_3 u8, g8_4 u8), List.Perm.refl _, List.Perm.refl _, hF, hG, hP, tw_of 1 ((if_neg (fun z => z.2 (kth_ng hi0 _ _ _ (by decide)))).symm) (by decide) (by decide)⟩⟩
set_option maxRecDepth 100000 in
set_option maxHeartbeats 4000000 in
theorem op_odds (l : Launch) (E : Et) (x k : Nat) (p1 : Int32) (b1 : Bool) : OpL E x k (fun w P => Ct l E yX6_odds cX6_odds 3 (some .long) 6 0 0 [.ref x, .int p1, .int (nI (b1).toNat)] w P) (fun w P => Ct l E yX8_odds cX8_odds 10 (some .long) 5 0 0 [.ref k, .int p1, .int (nI (b1).toNat)] w P) := by
  intro w6 w8 hv
  rcases hv with hv | hv
  · obtain ⟨u6, u8, hp6, hp8, hF, hN, hW⟩ := hv
    have hfd := hF.1
    have hby := hF.2.1
    have hkw := hF.2.2.1
    have h40z := hF.2.2.2.1
    have h40 := hF.2.2.2.2.1
    have hink2 := hF.2.2.2.2.2.1
    have hwt := hF.2.2.2.2.2.2.1
    have hdy := hF.2.2.2.2.2.2.2.1
    have hds := hF.2.2.2.2.2.2.2.2.1
    have hink := hF.2.2.2.2.2.2.2.2.2.1
    have ht := hF.2.2.2.2.2.2.2.2.2.2.1
    have ho := hF.2.2.2.2.2.2.2.2.2.2.2.1
    have hac := hF.2.2.2.2.2.2.2.2.2.2.2.2.1
    have him := hF.2.2.2.2.2.2.2.2.2.2.2.2.2.1
    have hc0 := hF.2.2.2.2.2.2.2.2.2.2.2.2.2.2.1
    have hc1 := hF.2.2.2.2.2.2.2.2.2.2.2.2.2.2.2.1
    have hc2 := hF.2.2.2.2.2.2.2.2.2.2.2.2.2.2.2.2.1
    have hc3 := hF.2.2.2.2.2.2.2.2.2.2.2.2.2.2.2.2.2.1
    have hc4 := hF.2.2.2.2.2.2.2.2.2.2.2.2.2.2.2.2.2.2.1
    have hc5 := hF.2.2.2.2.2.2.2.2.2.2.2.2.2.2.2.2.2.2.2.1
    have hc6 := hF.2.2.2.2.2.2.2.2.2.2.2.2.2.2.2.2.2.2.2.2.1
    have hc7 := hF.2.2.2.2.2.2.2.2.2.2.2.2.2.2.2.2.2.2.2.2.2
    have htr := hW.1
    have htl := hW.2.1
    have hy0 := hN.1
    have hy3 : (s6_cy u6) 3 = 0 := hy0 3 (by decide)
    have hy4 : (s6_cy u6) 4 = 0 := hy0 4 (by decide)
    have hy5 : (s6_cy u6) 5 = 0 := hy0 5 (by decide)
    have hy6 : (s6_cy u6) 6 = 0 := hy0 6 (by decide)
    refine ⟨(wrL (W6 E x (((s6_g u6), (s6_xa u6), (s6_ra u6), (s6_caz u6), (s6_ca u6), (s6_pq u6), (s6_fl u6), (if okM p1 ((s6_cy u6) 6) then 0 else 1)), g6_1 u6, g6_2 u6, g6_3 u6, g6_4 u6, g6_5 u6, g6_6 u6, g6_7 u6, g6_8 u6, g6_9 u6, g6_10 u6)) (if okM p1 ((s6_cy u6) 6) then lN (lowT (ww (s6_wt u6) (2 ^ tn p1)) (ww (s6_wt u6) 0) b1) else (-1))), (wrL (W8n E k (((s6_g u6), (s6_xa u6), (s6_ra u6), (s6_caz u6), (s6_ca u6), (s6_pq u6), (s6_fl u6), (if okM p1 ((s6_cy u6) 6) then 0 else 1)), g6_1 u6, g6_2 u6, g6_3 u6, g6_4 u6, g6_5 u6, g6_6 u6, g6_7 u6, g6_8 u6, g6_9 u6, g6_10 u6) (((s8_q u8), 0, 1, (-1), (s8_rr u8), (s8_z u8), (s8_nb u8), (s8_wa u8)), g8_1 u8, g8_2 u8, g8_3 u8, g8_4 u8)) ((-1))), Ct.perm hp6.symm (Ct.frL (c_X6_odds l E x (s6_xa u6) (s6_g u6) (s6_tr u6) (s6_fl u6) (s6_pl u6) (s6_cy u6) (s6_ca u6) (s6_hw u6) (s6_wt u6) p1 b1 (by first | assumption | omega) (by first | assumption | omega)) [0, 20, 45, 46] rfl rfl rfl rfl), Ct.perm hp8.symm (Ct.frL (c_X8_odds_n l E k (s8_th u8) (s8_tr8 u8) (s8_wh u8) (s8_rr u8) (s8_q u8) (upN (upN (upN (upN (s8_z u8) 6 (s6_fd u6)) 12 (s6_fl u6)) 19 (s6_ac u6)) 20 (s6_im u6)) (s8_nb u8) (s8_wa u8) (s8_wd u8) (s8_ev u8) (s8_al u8) (s8_wl u8) p1 b1 ) [0] rfl rfl rfl rfl), fun r w h => ⟨_, h.2⟩, ?_⟩
    rintro r w r' w' ⟨rfl, rfl⟩ ⟨rfl, rfl⟩
    exact ⟨congrArg (fun z => some (Value.long z)) (if_neg (okM_0 hy6)), Or.inl ⟨(((s6_g u6), (s6_xa u6), (s6_ra u6), (s6_caz u6), (s6_ca u6), (s6_pq u6), (s6_fl u6), (if okM p1 ((s6_cy u6) 6) then 0 else 1)), g6_1 u6, g6_2 u6, g6_3 u6, g6_4 u6, g6_5 u6, g6_6 u6, g6_7 u6, g6_8 u6, g6_9 u6, g6_10 u6), (((s8_q u8), 0, 1, (-1), (s8_rr u8), (s8_z u8), (s8_nb u8), (s8_wa u8)), g8_1 u8, g8_2 u8, g8_3 u8, g8_4 u8), List.Perm.refl _, List.Perm.refl _, hF, hN, tw_of 1 ((if_neg (okM_0 hy6)).symm) (by decide) (by decide)⟩⟩
  · obtain ⟨u6, u8, hp6, hp8, hF, hG, hP, hW⟩ := hv
    have hfd := hF.1
    have hby := hF.2.1
    have hkw := hF.2.2.1
    have h40z := hF.2.2.2.1
    have h40 := hF.2.2.2.2.1
    have hink2 := hF.2.2.2.2.2.1
    have hwt := hF.2.2.2.2.2.2.1
    have hdy := hF.2.2.2.2.2.2.2.1
    have hds := hF.2.2.2.2.2.2.2.2.1
    have hink := hF.2.2.2.2.2.2.2.2.2.1
    have ht := hF.2.2.2.2.2.2.2.2.2.2.1
    have ho := hF.2.2.2.2.2.2.2.2.2.2.2.1
    have hac := hF.2.2.2.2.2.2.2.2.2.2.2.2.1
    have him := hF.2.2.2.2.2.2.2.2.2.2.2.2.2.1
    have hc0 := hF.2.2.2.2.2.2.2.2.2.2.2.2.2.2.1
    have hc1 := hF.2.2.2.2.2.2.2.2.2.2.2.2.2.2.2.1
    have hc2 := hF.2.2.2.2.2.2.2.2.2.2.2.2.2.2.2.2.1
    have hc3 := hF.2.2.2.2.2.2.2.2.2.2.2.2.2.2.2.2.2.1
    have hc4 := hF.2.2.2.2.2.2.2.2.2.2.2.2.2.2.2.2.2.2.1
    have hc5 := hF.2.2.2.2.2.2.2.2.2.2.2.2.2.2.2.2.2.2.2.1
    have hc6 := hF.2.2.2.2.2.2.2.2.2.2.2.2.2.2.2.2.2.2.2.2.1
    have hc7 := hF.2.2.2.2.2.2.2.2.2.2.2.2.2.2.2.2.2.2.2.2.2
    have htr := hW.1
    have htl := hW.2.1
    have hgb := g8_b hc4 hc5 hc7 hG
    have hfo := hgb.1
    have hon := hgb.2.1
    have htw := hgb.2.2.1
    have hFs := hgb.2.2.2.1
    have hFt := hgb.2.2.2.2.1
    have hik := hgb.2.2.2.2.2.1
    have hun := hgb.2.2.2.2.2.2.1
    have hdi := hgb.2.2.2.2.2.2.2.1
    have hd2 := hgb.2.2.2.2.2.2.2.2.1
    have hd3 := hgb.2.2.2.2.2.2.2.2.2.1
    have hkp := hgb.2.2.2.2.2.2.2.2.2.2.1
    have hm1 := hgb.2.2.2.2.2.2.2.2.2.2.2.1
    have hal_ := hgb.2.2.2.2.2.2.2.2.2.2.2.2
    have hal := hal_ (s6_t u6)
    have hz : ∀ c, (s6_cy u6) 5 ≤ c → (s6_ink u6) c = 0 := hP.1.2.1
    have hmz : ∀ c, (s6_cy u6) 5 ≤ c → (s6_mn u6) c = -1 := hP.1.2.2.1
    have hdd9 : (s6_dd u6) ≤ 999 := hP.1.2.2.2.2
    have hw8 := w8_e hG
    have h30 : ¬ (s6_cy u6) 3 = 0 := by omega
    by_cases hok : okM p1 ((s6_cy u6) 6)
    · obtain ⟨c0, hc0c, rfl⟩ := okM_nat hok (by omega)
      have hc31 : c0 < 2 ^ 31 := by omega
      refine ⟨(wrL (W6 E x (((s6_g u6), (s6_xa u6), (s6_ra u6), (s6_caz u6), (s6_ca u6), (s6_pq u6), (s6_fl u6), (if okM (nI c0) ((s6_cy u6) 6) then 0 else 1)), g6_1 u6, g6_2 u6, g6_3 u6, g6_4 u6, g6_5 u6, g6_6 u6, g6_7 u6, g6_8 u6, g6_9 u6, g6_10 u6)) (if okM (nI c0) ((s6_cy u6) 6) then lN (lowT (ww (s6_wt u6) (2 ^ tn (nI c0))) (ww (s6_wt u6) 0) b1) else (-1))), (jwrL (fun jp => W8c E k (((s6_g u6), (s6_xa u6), (s6_ra u6), (s6_caz u6), (s6_ca u6), (s6_pq u6), (s6_fl u6), (if okM (nI c0) ((s6_cy u6) 6) then 0 else 1)), g6_1 u6, g6_2 u6, g6_3 u6, g6_4 u6, g6_5 u6, g6_6 u6, g6_7 u6, g6_8 u6, g6_9 u6, g6_10 u6) (((s8_q u8), 0, 0, (-1), (s8_rr u8), (s8_z u8), (s8_nb u8), (s8_wa u8)), ((s8_wd u8), (s8_ev u8), (s8_al u8), (s8_wl u8), jp, (s8_pp u8), (s8_pj8 u8), (s8_ke u8)), g8_2 u8, g8_3 u8, g8_4 u8)) (lN (lowT (ww (wt8 (s6_cy u6) (s6_Fs u6) (s6_Ft u6) (s8_d1 u8) (s8_d2_ u8) (s8_d3 u8) (s8_kp u8) (s8_gm u8) (s8_gi u8) (s8_un u8)) (2 ^ c0)) (ww (wt8 (s6_cy u6) (s6_Fs u6) (s6_Ft u6) (s8_d1 u8) (s8_d2_ u8) (s8_d3 u8) (s8_kp u8) (s8_gm u8) (s8_gi u8) (s8_un u8)) 0) b1))), Ct.perm hp6.symm (Ct.frL (c_X6_odds l E x (s6_xa u6) (s6_g u6) (s6_tr u6) (s6_fl u6) (s6_pl u6) (s6_cy u6) (s6_ca u6) (s6_hw u6) (s6_wt u6) (nI c0) b1 (by first | assumption | omega) (by first | assumption | omega)) [0, 20, 45, 46] rfl rfl rfl rfl), Ct.perm hp8.symm (Ct.fjL (c_X8_odds l E k (s8_th u8) (s8_tr8 u8) (s8_wh u8) (s8_g8 u8) (s8_rr u8) (s8_q u8) (upN (upN (upN (upN (s8_z u8) 6 (s6_fd u6)) 12 (s6_fl u6)) 19 (s6_ac u6)) 20 (s6_im u6)) (s8_nb u8) (s8_wa u8) (s8_wd u8) (s8_ev u8) (s8_al u8) (s8_wl u8) (s6_cy u6) (s8_kp u8) (s8_nc u8) (s8_cb u8) (s8_gm u8) (s8_gi u8) (s8_gf u8) (s8_go_ u8) (s8_gt_ u8) (s8_un u8) (s8_d1 u8) (s8_d2_ u8) (s8_d3 u8) (s8_xf u8) (s6_Fs u6) (s6_Ft u6) c0 b1 (by first | assumption | omega) (by first | assumption | omega) (by first | assumption | omega) (by first | assumption | omega) (by first | assumption | omega) (by first | assumption | omega) (by first | assumption | omega) (by first | assumption | omega) (by first | assumption | omega) (by first | assumption | omega) (by first | assumption | omega) (by first | assumption | omega) (by first | assumption | omega) (by first | assumption | omega) (by first | assumption | omega) (by first | assumption | omega) (by first | assumption | omega) (hc0c)) [0, 10, 11, 12, 13, 14, 15, 16, 17, 18, 19, 3] rfl rfl (fun _ => rfl) (fun _ => rfl)), fun r w h => ⟨_, h.2⟩, ?_⟩
      rintro r w r' w' ⟨rfl, rfl⟩ ⟨⟨jp, rfl⟩, rfl⟩
      exact ⟨congrArg (fun z => some (Value.long z)) ((if_pos hok).trans (by rw [tn_n hc31, hw8])), Or.inr ⟨(((s6_g u6), (s6_xa u6), (s6_ra u6), (s6_caz u6), (s6_ca u6), (s6_pq u6), (s6_fl u6), (if okM (nI c0) ((s6_cy u6) 6) then 0 else 1)), g6_1 u6, g6_2 u6, g6_3 u6, g6_4 u6, g6_5 u6, g6_6 u6, g6_7 u6, g6_8 u6, g6_9 u6, g6_10 u6), (((s8_q u8), 0, 0, (-1), (s8_rr u8), (s8_z u8), (s8_nb u8), (s8_wa u8)), ((s8_wd u8), (s8_ev u8), (s8_al u8), (s8_wl u8), jp, (s8_pp u8), (s8_pj8 u8), (s8_ke u8)), g8_2 u8, g8_3 u8, g8_4 u8), List.Perm.refl _, List.Perm.refl _, hF, hG, hP, tw_of 0 ((if_pos hok).symm) (by decide) (by decide)⟩⟩
    · refine ⟨(wrL (W6 E x (((s6_g u6), (s6_xa u6), (s6_ra u6), (s6_caz u6), (s6_ca u6), (s6_pq u6), (s6_fl u6), (if okM p1 ((s6_cy u6) 6) then 0 else 1)), g6_1 u6, g6_2 u6, g6_3 u6, g6_4 u6, g6_5 u6, g6_6 u6, g6_7 u6, g6_8 u6, g6_9 u6, g6_10 u6)) (if okM p1 ((s6_cy u6) 6) then lN (lowT (ww (s6_wt u6) (2 ^ tn p1)) (ww (s6_wt u6) 0) b1) else (-1))), (wrL (W8c E k (((s6_g u6), (s6_xa u6), (s6_ra u6), (s6_caz u6), (s6_ca u6), (s6_pq u6), (s6_fl u6), (if okM p1 ((s6_cy u6) 6) then 0 else 1)), g6_1 u6, g6_2 u6, g6_3 u6, g6_4 u6, g6_5 u6, g6_6 u6, g6_7 u6, g6_8 u6, g6_9 u6, g6_10 u6) (((s8_q u8), 0, 1, (-1), (s8_rr u8), (s8_z u8), (s8_nb u8), (s8_wa u8)), g8_1 u8, g8_2 u8, g8_3 u8, g8_4 u8)) ((-1))), Ct.perm hp6.symm (Ct.frL (c_X6_odds l E x (s6_xa u6) (s6_g u6) (s6_tr u6) (s6_fl u6) (s6_pl u6) (s6_cy u6) (s6_ca u6) (s6_hw u6) (s6_wt u6) p1 b1 (by first | assumption | omega) (by first | assumption | omega)) [0, 20, 45, 46] rfl rfl rfl rfl), Ct.perm hp8.symm (Ct.frL (c_X8_odds_no l E k (s8_th u8) (s8_tr8 u8) (s8_wh u8) (s8_g8 u8) (s8_rr u8) (s8_q u8) (upN (upN (upN (upN (s8_z u8) 6 (s6_fd u6)) 12 (s6_fl u6)) 19 (s6_ac u6)) 20 (s6_im u6)) (s8_nb u8) (s8_wa u8) (s8_wd u8) (s8_ev u8) (s8_al u8) (s8_wl u8) (s6_cy u6) (s8_kp u8) (s8_nc u8) (s8_cb u8) p1 b1 (by first | assumption | omega)) [0, 10] rfl rfl rfl rfl), fun r w h => ⟨_, h.2⟩, ?_⟩
      rintro r w r' w' ⟨rfl, rfl⟩ ⟨rfl, rfl⟩
      exact ⟨congrArg (fun z => some (Value.long z)) (if_neg hok), Or.inr ⟨(((s6_g u6), (s6_xa u6), (s6_ra u6), (s6_caz u6), (s6_ca u6), (s6_pq u6), (s6_fl u6), (if okM p1 ((s6_cy u6) 6) then 0 else 1)), g6_1 u6, g6_2 u6, g6_3 u6, g6_4 u6, g6_5 u6, g6_6 u6, g6_7 u6, g6_8 u6, g6_9 u6, g6_10 u6), (((s8_q u8), 0, 1, (-1), (s8_rr u8), (s8_z u8), (s8_nb u8), (s8_wa u8)), g8_1 u8, g8_2 u8, g8_3 u8, g8_4 u8), List.Perm.refl _, List.Perm.refl _, hF, hG, hP, tw_of 1 ((if_neg hok).symm) (by decide) (by decide)⟩⟩
set_option maxRecDepth 100000 in
set_option maxHeartbeats 4000000 in
theorem op_shaves (l : Launch) (E : Et) (x k : Nat) (p1 : Int32) (b1 : Bool) (b2 : Bool) (b3 : Bool) : OpI E x k (fun w P => Ct l E yX6_shaves cX6_shaves 6 (some .int) 6 0 0 [.ref x, .int p1, .int (nI (b1).toNat), .int (nI (b2).toNat), .int (nI (b3).toNat)] w P) (fun w P => Ct l E yX8_shaves cX8_shaves 6 (some .int) 5 0 0 [.ref k, .int p1, .int (nI (b1).toNat), .int (nI (b2).toNat), .int (nI (b3).toNat)] w P) := by
  intro w6 w8 hv
  rcases hv with hv | hv
  · obtain ⟨u6, u8, hp6, hp8, hF, hN, hW⟩ := hv
    have hfd := hF.1
    have hby := hF.2.1
    have hkw := hF.2.2.1
    have h40z := hF.2.2.2.1
    have h40 := hF.2.2.2.2.1
    have hink2 := hF.2.2.2.2.2.1
    have hwt := hF.2.2.2.2.2.2.1
    have hdy := hF.2.2.2.2.2.2.2.1
    have hds := hF.2.2.2.2.2.2.2.2.1
    have hink := hF.2.2.2.2.2.2.2.2.2.1
    have ht := hF.2.2.2.2.2.2.2.2.2.2.1
    have ho := hF.2.2.2.2.2.2.2.2.2.2.2.1
    have hac := hF.2.2.2.2.2.2.2.2.2.2.2.2.1
    have him := hF.2.2.2.2.2.2.2.2.2.2.2.2.2.1
    have hc0 := hF.2.2.2.2.2.2.2.2.2.2.2.2.2.2.1
    have hc1 := hF.2.2.2.2.2.2.2.2.2.2.2.2.2.2.2.1
    have hc2 := hF.2.2.2.2.2.2.2.2.2.2.2.2.2.2.2.2.1
    have hc3 := hF.2.2.2.2.2.2.2.2.2.2.2.2.2.2.2.2.2.1
    have hc4 := hF.2.2.2.2.2.2.2.2.2.2.2.2.2.2.2.2.2.2.1
    have hc5 := hF.2.2.2.2.2.2.2.2.2.2.2.2.2.2.2.2.2.2.2.1
    have hc6 := hF.2.2.2.2.2.2.2.2.2.2.2.2.2.2.2.2.2.2.2.2.1
    have hc7 := hF.2.2.2.2.2.2.2.2.2.2.2.2.2.2.2.2.2.2.2.2.2
    have htr := hW.1
    have htl := hW.2.1
    have hy0 := hN.1
    have hy3 : (s6_cy u6) 3 = 0 := hy0 3 (by decide)
    have hy4 : (s6_cy u6) 4 = 0 := hy0 4 (by decide)
    have hy5 : (s6_cy u6) 5 = 0 := hy0 5 (by decide)
    have hy6 : (s6_cy u6) 6 = 0 := hy0 6 (by decide)
    refine ⟨(wrI (W6 E x (((s6_g u6), (s6_xa u6), (s6_ra u6), (s6_caz u6), (s6_ca u6), (s6_pq u6), (s6_fl u6), (chT ((s6_cy u6) 3) p1)), g6_1 u6, g6_2 u6, g6_3 u6, g6_4 u6, g6_5 u6, g6_6 u6, g6_7 u6, g6_8 u6, g6_9 u6, g6_10 u6)) (if chT ((s6_cy u6) 3) p1 = 0 then gainI (tn p1) b1 b2 b3 else (-100))), (wrI (W8n E k (((s6_g u6), (s6_xa u6), (s6_ra u6), (s6_caz u6), (s6_ca u6), (s6_pq u6), (s6_fl u6), (chT ((s6_cy u6) 3) p1)), g6_1 u6, g6_2 u6, g6_3 u6, g6_4 u6, g6_5 u6, g6_6 u6, g6_7 u6, g6_8 u6, g6_9 u6, g6_10 u6) (((s8_q u8), 0, 1, (-1), (s8_rr u8), (s8_z u8), (s8_nb u8), (s8_wa u8)), g8_1 u8, g8_2 u8, g8_3 u8, g8_4 u8)) ((-100))), Ct.perm hp6.symm (Ct.frI (c_X6_shaves l E x (s6_xa u6) (s6_g u6) (s6_tr u6) (s6_fl u6) (s6_pl u6) (s6_cy u6) (s6_ca u6) p1 b1 b2 b3 (by first | assumption | omega)) [0, 20] rfl rfl rfl rfl), Ct.perm hp8.symm (Ct.frI (c_X8_shaves_n l E k (s8_th u8) (s8_tr8 u8) (s8_wh u8) (s8_rr u8) (s8_q u8) (upN (upN (upN (upN (s8_z u8) 6 (s6_fd u6)) 12 (s6_fl u6)) 19 (s6_ac u6)) 20 (s6_im u6)) (s8_nb u8) (s8_wa u8) (s8_wd u8) (s8_ev u8) (s8_al u8) (s8_wl u8) p1 b1 b2 b3 ) [0] rfl rfl rfl rfl), fun r w h => ⟨_, h.2⟩, ?_⟩
    rintro r w r' w' ⟨rfl, rfl⟩ ⟨rfl, rfl⟩
    exact ⟨congrArg (fun z => some (Value.int z)) (if_neg (by rw [ch_1 hy3]; decide)), Or.inl ⟨(((s6_g u6), (s6_xa u6), (s6_ra u6), (s6_caz u6), (s6_ca u6), (s6_pq u6), (s6_fl u6), (chT ((s6_cy u6) 3) p1)), g6_1 u6, g6_2 u6, g6_3 u6, g6_4 u6, g6_5 u6, g6_6 u6, g6_7 u6, g6_8 u6, g6_9 u6, g6_10 u6), (((s8_q u8), 0, 1, (-1), (s8_rr u8), (s8_z u8), (s8_nb u8), (s8_wa u8)), g8_1 u8, g8_2 u8, g8_3 u8, g8_4 u8), List.Perm.refl _, List.Perm.refl _, hF, hN, tw_of 1 ((ch_1 hy3).symm) (by decide) (by decide)⟩⟩
  · obtain ⟨u6, u8, hp6, hp8, hF, hG, hP, hW⟩ := hv
    have hfd := hF.1
    have hby := hF.2.1
    have hkw := hF.2.2.1
    have h40z := hF.2.2.2.1
    have h40 := hF.2.2.2.2.1
    have hink2 := hF.2.2.2.2.2.1
    have hwt := hF.2.2.2.2.2.2.1
    have hdy := hF.2.2.2.2.2.2.2.1
    have hds := hF.2.2.2.2.2.2.2.2.1
    have hink := hF.2.2.2.2.2.2.2.2.2.1
    have ht := hF.2.2.2.2.2.2.2.2.2.2.1
    have ho := hF.2.2.2.2.2.2.2.2.2.2.2.1
    have hac := hF.2.2.2.2.2.2.2.2.2.2.2.2.1
    have him := hF.2.2.2.2.2.2.2.2.2.2.2.2.2.1
    have hc0 := hF.2.2.2.2.2.2.2.2.2.2.2.2.2.2.1
    have hc1 := hF.2.2.2.2.2.2.2.2.2.2.2.2.2.2.2.1
    have hc2 := hF.2.2.2.2.2.2.2.2.2.2.2.2.2.2.2.2.1
    have hc3 := hF.2.2.2.2.2.2.2.2.2.2.2.2.2.2.2.2.2.1
    have hc4 := hF.2.2.2.2.2.2.2.2.2.2.2.2.2.2.2.2.2.2.1
    have hc5 := hF.2.2.2.2.2.2.2.2.2.2.2.2.2.2.2.2.2.2.2.1
    have hc6 := hF.2.2.2.2.2.2.2.2.2.2.2.2.2.2.2.2.2.2.2.2.1
    have hc7 := hF.2.2.2.2.2.2.2.2.2.2.2.2.2.2.2.2.2.2.2.2.2
    have htr := hW.1
    have htl := hW.2.1
    have hgb := g8_b hc4 hc5 hc7 hG
    have hfo := hgb.1
    have hon := hgb.2.1
    have htw := hgb.2.2.1
    have hFs := hgb.2.2.2.1
    have hFt := hgb.2.2.2.2.1
    have hik := hgb.2.2.2.2.2.1
    have hun := hgb.2.2.2.2.2.2.1
    have hdi := hgb.2.2.2.2.2.2.2.1
    have hd2 := hgb.2.2.2.2.2.2.2.2.1
    have hd3 := hgb.2.2.2.2.2.2.2.2.2.1
    have hkp := hgb.2.2.2.2.2.2.2.2.2.2.1
    have hm1 := hgb.2.2.2.2.2.2.2.2.2.2.2.1
    have hal_ := hgb.2.2.2.2.2.2.2.2.2.2.2.2
    have hal := hal_ (s6_t u6)
    have hz : ∀ c, (s6_cy u6) 5 ≤ c → (s6_ink u6) c = 0 := hP.1.2.1
    have hmz : ∀ c, (s6_cy u6) 5 ≤ c → (s6_mn u6) c = -1 := hP.1.2.2.1
    have hdd9 : (s6_dd u6) ≤ 999 := hP.1.2.2.2.2
    have hw8 := w8_e hG
    have h30 : ¬ (s6_cy u6) 3 = 0 := by omega
    by_cases hs0 : 0 ≤ p1 ∧ p1 ≤ nI 9
    · have hs1 := hs0
      obtain ⟨d0, hd0, rfl⟩ := rg_nat (by decide) hs0
      have hd31 : d0 < 2 ^ 31 := by omega
      refine ⟨(wrI (W6 E x (((s6_g u6), (s6_xa u6), (s6_ra u6), (s6_caz u6), (s6_ca u6), (s6_pq u6), (s6_fl u6), (chT ((s6_cy u6) 3) (nI d0))), g6_1 u6, g6_2 u6, g6_3 u6, g6_4 u6, g6_5 u6, g6_6 u6, g6_7 u6, g6_8 u6, g6_9 u6, g6_10 u6)) (if chT ((s6_cy u6) 3) (nI d0) = 0 then gainI (tn (nI d0)) b1 b2 b3 else (-100))), (wrI (W8c E k (((s6_g u6), (s6_xa u6), (s6_ra u6), (s6_caz u6), (s6_ca u6), (s6_pq u6), (s6_fl u6), (chT ((s6_cy u6) 3) (nI d0))), g6_1 u6, g6_2 u6, g6_3 u6, g6_4 u6, g6_5 u6, g6_6 u6, g6_7 u6, g6_8 u6, g6_9 u6, g6_10 u6) (((s8_q u8), 0, 0, (-1), (s8_rr u8), (s8_z u8), (s8_nb u8), (s8_wa u8)), g8_1 u8, g8_2 u8, g8_3 u8, g8_4 u8)) (gainI d0 b1 b2 b3)), Ct.perm hp6.symm (Ct.frI (c_X6_shaves l E x (s6_xa u6) (s6_g u6) (s6_tr u6) (s6_fl u6) (s6_pl u6) (s6_cy u6) (s6_ca u6) (nI d0) b1 b2 b3 (by first | assumption | omega)) [0, 20] rfl rfl rfl rfl), Ct.perm hp8.symm (Ct.frI (c_X8_shaves l E k (s8_th u8) (s8_tr8 u8) (s8_wh u8) (s8_g8 u8) (s8_rr u8) (s8_q u8) (upN (upN (upN (upN (s8_z u8) 6 (s6_fd u6)) 12 (s6_fl u6)) 19 (s6_ac u6)) 20 (s6_im u6)) (s8_nb u8) (s8_wa u8) (s8_wd u8) (s8_ev u8) (s8_al u8) (s8_wl u8) d0 b1 b2 b3 (hd0)) [0] rfl rfl rfl rfl), fun r w h => ⟨_, h.2⟩, ?_⟩
      rintro r w r' w' ⟨rfl, rfl⟩ ⟨rfl, rfl⟩
      exact ⟨congrArg (fun z => some (Value.int z)) ((if_pos (ch_0 h30 hs1)).trans (by rw [tn_n hd31])), Or.inr ⟨(((s6_g u6), (s6_xa u6), (s6_ra u6), (s6_caz u6), (s6_ca u6), (s6_pq u6), (s6_fl u6), (chT ((s6_cy u6) 3) (nI d0))), g6_1 u6, g6_2 u6, g6_3 u6, g6_4 u6, g6_5 u6, g6_6 u6, g6_7 u6, g6_8 u6, g6_9 u6, g6_10 u6), (((s8_q u8), 0, 0, (-1), (s8_rr u8), (s8_z u8), (s8_nb u8), (s8_wa u8)), g8_1 u8, g8_2 u8, g8_3 u8, g8_4 u8), List.Perm.refl _, List.Perm.refl _, hF, hG, hP, tw_of 0 ((ch_0 h30 hs1).symm) (by decide) (by decide)⟩⟩
    · refine ⟨(wrI (W6 E x (((s6_g u6), (s6_xa u6), (s6_ra u6), (s6_caz u6), (s6_ca u6), (s6_pq u6), (s6_fl u6), (chT ((s6_cy u6) 3) p1)), g6_1 u6, g6_2 u6, g6_3 u6, g6_4 u6, g6_5 u6, g6_6 u6, g6_7 u6, g6_8 u6, g6_9 u6, g6_10 u6)) (if chT ((s6_cy u6) 3) p1 = 0 then gainI (tn p1) b1 b2 b3 else (-100))), (wrI (W8c E k (((s6_g u6), (s6_xa u6), (s6_ra u6), (s6_caz u6), (s6_ca u6), (s6_pq u6), (s6_fl u6), (chT ((s6_cy u6) 3) p1)), g6_1 u6, g6_2 u6, g6_3 u6, g6_4 u6, g6_5 u6, g6_6 u6, g6_7 u6, g6_8 u6, g6_9 u6, g6_10 u6) (((s8_q u8), 0, 2, (-1), (s8_rr u8), (s8_z u8), (s8_nb u8), (s8_wa u8)), g8_1 u8, g8_2 u8, g8_3 u8, g8_4 u8)) ((-100))), Ct.perm hp6.symm (Ct.frI (c_X6_shaves l E x (s6_xa u6) (s6_g u6) (s6_tr u6) (s6_fl u6) (s6_pl u6) (s6_cy u6) (s6_ca u6) p1 b1 b2 b3 (by first | assumption | omega)) [0, 20] rfl rfl rfl rfl), Ct.perm hp8.symm (Ct.frI (c_X8_shaves_no2 l E k (s8_th u8) (s8_tr8 u8) (s8_wh u8) (s8_g8 u8) (s8_rr u8) (s8_q u8) (upN (upN (upN (upN (s8_z u8) 6 (s6_fd u6)) 12 (s6_fl u6)) 19 (s6_ac u6)) 20 (s6_im u6)) (s8_nb u8) (s8_wa u8) (s8_wd u8) (s8_ev u8) (s8_al u8) (s8_wl u8) p1 b1 b2 b3 (hs0)) [0] rfl rfl rfl rfl), fun r w h => ⟨_, h.2⟩, ?_⟩
      rintro r w r' w' ⟨rfl, rfl⟩ ⟨rfl, rfl⟩
      exact ⟨congrArg (fun z => some (Value.int z)) (if_neg (by rw [ch_2 h30 hs0]; decide)), Or.inr ⟨(((s6_g u6), (s6_xa u6), (s6_ra u6), (s6_caz u6), (s6_ca u6), (s6_pq u6), (s6_fl u6), (chT ((s6_cy u6) 3) p1)), g6_1 u6, g6_2 u6, g6_3 u6, g6_4 u6, g6_5 u6, g6_6 u6, g6_7 u6, g6_8 u6, g6_9 u6, g6_10 u6), (((s8_q u8), 0, 2, (-1), (s8_rr u8), (s8_z u8), (s8_nb u8), (s8_wa u8)), g8_1 u8, g8_2 u8, g8_3 u8, g8_4 u8), List.Perm.refl _, List.Perm.refl _, hF, hG, hP, tw_of 2 ((ch_2 h30 hs0).symm) (by decide) (by decide)⟩⟩
set_option maxRecDepth 100000 in
set_option maxHeartbeats 4000000 in
theorem op_rests (l : Launch) (E : Et) (x k : Nat) (p1 : Int32) : OpI E x k (fun w P => Ct l E yX6_rests cX6_rests 5 (some .int) 6 0 0 [.ref x, .int p1] w P) (fun w P => Ct l E yX8_rests cX8_rests 5 (some .int) 5 0 0 [.ref k, .int p1] w P) := by
  intro w6 w8 hv
  rcases hv with hv | hv
  · obtain ⟨u6, u8, hp6, hp8, hF, hN, hW⟩ := hv
    have hfd := hF.1
    have hby := hF.2.1
    have hkw := hF.2.2.1
    have h40z := hF.2.2.2.1
    have h40 := hF.2.2.2.2.1
    have hink2 := hF.2.2.2.2.2.1
    have hwt := hF.2.2.2.2.2.2.1
    have hdy := hF.2.2.2.2.2.2.2.1
    have hds := hF.2.2.2.2.2.2.2.2.1
    have hink := hF.2.2.2.2.2.2.2.2.2.1
    have ht := hF.2.2.2.2.2.2.2.2.2.2.1
    have ho := hF.2.2.2.2.2.2.2.2.2.2.2.1
    have hac := hF.2.2.2.2.2.2.2.2.2.2.2.2.1
    have him := hF.2.2.2.2.2.2.2.2.2.2.2.2.2.1
    have hc0 := hF.2.2.2.2.2.2.2.2.2.2.2.2.2.2.1
    have hc1 := hF.2.2.2.2.2.2.2.2.2.2.2.2.2.2.2.1
    have hc2 := hF.2.2.2.2.2.2.2.2.2.2.2.2.2.2.2.2.1
    have hc3 := hF.2.2.2.2.2.2.2.2.2.2.2.2.2.2.2.2.2.1
    have hc4 := hF.2.2.2.2.2.2.2.2.2.2.2.2.2.2.2.2.2.2.1
    have hc5 := hF.2.2.2.2.2.2.2.2.2.2.2.2.2.2.2.2.2.2.2.1
    have hc6 := hF.2.2.2.2.2.2.2.2.2.2.2.2.2.2.2.2.2.2.2.2.1
    have hc7 := hF.2.2.2.2.2.2.2.2.2.2.2.2.2.2.2.2.2.2.2.2.2
    have htr := hW.1
    have htl := hW.2.1
    have hy0 := hN.1
    have hy3 : (s6_cy u6) 3 = 0 := hy0 3 (by decide)
    have hy4 : (s6_cy u6) 4 = 0 := hy0 4 (by decide)
    have hy5 : (s6_cy u6) 5 = 0 := hy0 5 (by decide)
    have hy6 : (s6_cy u6) 6 = 0 := hy0 6 (by decide)
    refine ⟨(wrI (W6 E x (((s6_g u6), (s6_xa u6), (s6_ra u6), (s6_caz u6), (s6_ca u6), (s6_pq u6), (s6_fl u6), (chT ((s6_cy u6) 3) p1)), g6_1 u6, g6_2 u6, g6_3 u6, g6_4 u6, g6_5 u6, g6_6 u6, g6_7 u6, g6_8 u6, g6_9 u6, g6_10 u6)) (if chT ((s6_cy u6) 3) p1 = 0 then nI (cnt (isRestB (tn p1)) 4) else (-1))), (wrI (W8n E k (((s6_g u6), (s6_xa u6), (s6_ra u6), (s6_caz u6), (s6_ca u6), (s6_pq u6), (s6_fl u6), (chT ((s6_cy u6) 3) p1)), g6_1 u6, g6_2 u6, g6_3 u6, g6_4 u6, g6_5 u6, g6_6 u6, g6_7 u6, g6_8 u6, g6_9 u6, g6_10 u6) (((s8_q u8), 0, 1, (-1), (s8_rr u8), (s8_z u8), (s8_nb u8), (s8_wa u8)), g8_1 u8, g8_2 u8, g8_3 u8, g8_4 u8)) ((-1))), Ct.perm hp6.symm (Ct.frI (c_X6_rests l E x (s6_xa u6) (s6_g u6) (s6_tr u6) (s6_fl u6) (s6_pl u6) (s6_cy u6) (s6_ca u6) p1 (by first | assumption | omega)) [0, 20] rfl rfl rfl rfl), Ct.perm hp8.symm (Ct.frI (c_X8_rests_n l E k (s8_th u8) (s8_tr8 u8) (s8_wh u8) (s8_rr u8) (s8_q u8) (upN (upN (upN (upN (s8_z u8) 6 (s6_fd u6)) 12 (s6_fl u6)) 19 (s6_ac u6)) 20 (s6_im u6)) (s8_nb u8) (s8_wa u8) (s8_wd u8) (s8_ev u8) (s8_al u8) (s8_wl u8) p1 ) [0] rfl rfl rfl rfl), fun r w h => ⟨_, h.2⟩, ?_⟩
    rintro r w r' w' ⟨rfl, rfl⟩ ⟨rfl, rfl⟩
    exact ⟨congrArg (fun z => some (Value.int z)) (if_neg (by rw [ch_1 hy3]; decide)), Or.inl ⟨(((s6_g u6), (s6_xa u6), (s6_ra u6), (s6_caz u6), (s6_ca u6), (s6_pq u6), (s6_fl u6), (chT ((s6_cy u6) 3) p1)), g6_1 u6, g6_2 u6, g6_3 u6, g6_4 u6, g6_5 u6, g6_6 u6, g6_7 u6, g6_8 u6, g6_9 u6, g6_10 u6), (((s8_q u8), 0, 1, (-1), (s8_rr u8), (s8_z u8), (s8_nb u8), (s8_wa u8)), g8_1 u8, g8_2 u8, g8_3 u8, g8_4 u8), List.Perm.refl _, List.Perm.refl _, hF, hN, tw_of 1 ((ch_1 hy3).symm) (by decide) (by decide)⟩⟩
  · obtain ⟨u6, u8, hp6, hp8, hF, hG, hP, hW⟩ := hv
    have hfd := hF.1
    have hby := hF.2.1
    have hkw := hF.2.2.1
    have h40z := hF.2.2.2.1
    have h40 := hF.2.2.2.2.1
    have hink2 := hF.2.2.2.2.2.1
    have hwt := hF.2.2.2.2.2.2.1
    have hdy := hF.2.2.2.2.2.2.2.1
    have hds := hF.2.2.2.2.2.2.2.2.1
    have hink := hF.2.2.2.2.2.2.2.2.2.1
    have ht := hF.2.2.2.2.2.2.2.2.2.2.1
    have ho := hF.2.2.2.2.2.2.2.2.2.2.2.1
    have hac := hF.2.2.2.2.2.2.2.2.2.2.2.2.1
    have him := hF.2.2.2.2.2.2.2.2.2.2.2.2.2.1
    have hc0 := hF.2.2.2.2.2.2.2.2.2.2.2.2.2.2.1
    have hc1 := hF.2.2.2.2.2.2.2.2.2.2.2.2.2.2.2.1
    have hc2 := hF.2.2.2.2.2.2.2.2.2.2.2.2.2.2.2.2.1
    have hc3 := hF.2.2.2.2.2.2.2.2.2.2.2.2.2.2.2.2.2.1
    have hc4 := hF.2.2.2.2.2.2.2.2.2.2.2.2.2.2.2.2.2.2.1
    have hc5 := hF.2.2.2.2.2.2.2.2.2.2.2.2.2.2.2.2.2.2.2.1
    have hc6 := hF.2.2.2.2.2.2.2.2.2.2.2.2.2.2.2.2.2.2.2.2.1
    have hc7 := hF.2.2.2.2.2.2.2.2.2.2.2.2.2.2.2.2.2.2.2.2.2
    have htr := hW.1
    have htl := hW.2.1
    have hgb := g8_b hc4 hc5 hc7 hG
    have hfo := hgb.1
    have hon := hgb.2.1
    have htw := hgb.2.2.1
    have hFs := hgb.2.2.2.1
    have hFt := hgb.2.2.2.2.1
    have hik := hgb.2.2.2.2.2.1
    have hun := hgb.2.2.2.2.2.2.1
    have hdi := hgb.2.2.2.2.2.2.2.1
    have hd2 := hgb.2.2.2.2.2.2.2.2.1
    have hd3 := hgb.2.2.2.2.2.2.2.2.2.1
    have hkp := hgb.2.2.2.2.2.2.2.2.2.2.1
    have hm1 := hgb.2.2.2.2.2.2.2.2.2.2.2.1
    have hal_ := hgb.2.2.2.2.2.2.2.2.2.2.2.2
    have hal := hal_ (s6_t u6)
    have hz : ∀ c, (s6_cy u6) 5 ≤ c → (s6_ink u6) c = 0 := hP.1.2.1
    have hmz : ∀ c, (s6_cy u6) 5 ≤ c → (s6_mn u6) c = -1 := hP.1.2.2.1
    have hdd9 : (s6_dd u6) ≤ 999 := hP.1.2.2.2.2
    have hw8 := w8_e hG
    have h30 : ¬ (s6_cy u6) 3 = 0 := by omega
    by_cases hs0 : 0 ≤ p1 ∧ p1 ≤ nI 9
    · have hs1 := hs0
      obtain ⟨d0, hd0, rfl⟩ := rg_nat (by decide) hs0
      have hd31 : d0 < 2 ^ 31 := by omega
      refine ⟨(wrI (W6 E x (((s6_g u6), (s6_xa u6), (s6_ra u6), (s6_caz u6), (s6_ca u6), (s6_pq u6), (s6_fl u6), (chT ((s6_cy u6) 3) (nI d0))), g6_1 u6, g6_2 u6, g6_3 u6, g6_4 u6, g6_5 u6, g6_6 u6, g6_7 u6, g6_8 u6, g6_9 u6, g6_10 u6)) (if chT ((s6_cy u6) 3) (nI d0) = 0 then nI (cnt (isRestB (tn (nI d0))) 4) else (-1))), (wrI (W8c E k (((s6_g u6), (s6_xa u6), (s6_ra u6), (s6_caz u6), (s6_ca u6), (s6_pq u6), (s6_fl u6), (chT ((s6_cy u6) 3) (nI d0))), g6_1 u6, g6_2 u6, g6_3 u6, g6_4 u6, g6_5 u6, g6_6 u6, g6_7 u6, g6_8 u6, g6_9 u6, g6_10 u6) (((s8_q u8), 0, 0, (-1), (s8_rr u8), (s8_z u8), (s8_nb u8), (s8_wa u8)), g8_1 u8, g8_2 u8, g8_3 u8, g8_4 u8)) (nI (cnt (isRestB d0) 4))), Ct.perm hp6.symm (Ct.frI (c_X6_rests l E x (s6_xa u6) (s6_g u6) (s6_tr u6) (s6_fl u6) (s6_pl u6) (s6_cy u6) (s6_ca u6) (nI d0) (by first | assumption | omega)) [0, 20] rfl rfl rfl rfl), Ct.perm hp8.symm (Ct.frI (c_X8_rests l E k (s8_th u8) (s8_tr8 u8) (s8_wh u8) (s8_g8 u8) (s8_rr u8) (s8_q u8) (upN (upN (upN (upN (s8_z u8) 6 (s6_fd u6)) 12 (s6_fl u6)) 19 (s6_ac u6)) 20 (s6_im u6)) (s8_nb u8) (s8_wa u8) (s8_wd u8) (s8_ev u8) (s8_al u8) (s8_wl u8) d0 (hd0)) [0] rfl rfl rfl rfl), fun r w h => ⟨_, h.2⟩, ?_⟩
      rintro r w r' w' ⟨rfl, rfl⟩ ⟨rfl, rfl⟩
      exact ⟨congrArg (fun z => some (Value.int z)) ((if_pos (ch_0 h30 hs1)).trans (by rw [tn_n hd31])), Or.inr ⟨(((s6_g u6), (s6_xa u6), (s6_ra u6), (s6_caz u6), (s6_ca u6), (s6_pq u6), (s6_fl u6), (chT ((s6_cy u6) 3) (nI d0))), g6_1 u6, g6_2 u6, g6_3 u6, g6_4 u6, g6_5 u6, g6_6 u6, g6_7 u6, g6_8 u6, g6_9 u6, g6_10 u6), (((s8_q u8), 0, 0, (-1), (s8_rr u8), (s8_z u8), (s8_nb u8), (s8_wa u8)), g8_1 u8, g8_2 u8, g8_3 u8, g8_4 u8), List.Perm.refl _, List.Perm.refl _, hF, hG, hP, tw_of 0 ((ch_0 h30 hs1).symm) (by decide) (by decide)⟩⟩
    · refine ⟨(wrI (W6 E x (((s6_g u6), (s6_xa u6), (s6_ra u6), (s6_caz u6), (s6_ca u6), (s6_pq u6), (s6_fl u6), (chT ((s6_cy u6) 3) p1)), g6_1 u6, g6_2 u6, g6_3 u6, g6_4 u6, g6_5 u6, g6_6 u6, g6_7 u6, g6_8 u6, g6_9 u6, g6_10 u6)) (if chT ((s6_cy u6) 3) p1 = 0 then nI (cnt (isRestB (tn p1)) 4) else (-1))), (wrI (W8c E k (((s6_g u6), (s6_xa u6), (s6_ra u6), (s6_caz u6), (s6_ca u6), (s6_pq u6), (s6_fl u6), (chT ((s6_cy u6) 3) p1)), g6_1 u6, g6_2 u6, g6_3 u6, g6_4 u6, g6_5 u6, g6_6 u6, g6_7 u6, g6_8 u6, g6_9 u6, g6_10 u6) (((s8_q u8), 0, 2, (-1), (s8_rr u8), (s8_z u8), (s8_nb u8), (s8_wa u8)), g8_1 u8, g8_2 u8, g8_3 u8, g8_4 u8)) ((-1))), Ct.perm hp6.symm (Ct.frI (c_X6_rests l E x (s6_xa u6) (s6_g u6) (s6_tr u6) (s6_fl u6) (s6_pl u6) (s6_cy u6) (s6_ca u6) p1 (by first | assumption | omega)) [0, 20] rfl rfl rfl rfl), Ct.perm hp8.symm (Ct.frI (c_X8_rests_no2 l E k (s8_th u8) (s8_tr8 u8) (s8_wh u8) (s8_g8 u8) (s8_rr u8) (s8_q u8) (upN (upN (upN (upN (s8_z u8) 6 (s6_fd u6)) 12 (s6_fl u6)) 19 (s6_ac u6)) 20 (s6_im u6)) (s8_nb u8) (s8_wa u8) (s8_wd u8) (s8_ev u8) (s8_al u8) (s8_wl u8) p1 (hs0)) [0] rfl rfl rfl rfl), fun r w h => ⟨_, h.2⟩, ?_⟩
      rintro r w r' w' ⟨rfl, rfl⟩ ⟨rfl, rfl⟩
      exact ⟨congrArg (fun z => some (Value.int z)) (if_neg (by rw [ch_2 h30 hs0]; decide)), Or.inr ⟨(((s6_g u6), (s6_xa u6), (s6_ra u6), (s6_caz u6), (s6_ca u6), (s6_pq u6), (s6_fl u6), (chT ((s6_cy u6) 3) p1)), g6_1 u6, g6_2 u6, g6_3 u6, g6_4 u6, g6_5 u6, g6_6 u6, g6_7 u6, g6_8 u6, g6_9 u6, g6_10 u6), (((s8_q u8), 0, 2, (-1), (s8_rr u8), (s8_z u8), (s8_nb u8), (s8_wa u8)), g8_1 u8, g8_2 u8, g8_3 u8, g8_4 u8), List.Perm.refl _, List.Perm.refl _, hF, hG, hP, tw_of 2 ((ch_2 h30 hs0).symm) (by decide) (by decide)⟩⟩
set_option maxRecDepth 100000 in
set_option maxHeartbeats 4000000 in
theorem op_rest (l : Launch) (E : Et) (x k : Nat) (p1 : Int32) : OpI E x k (fun w P => Ct l E yX6_rest cX6_rest 4 (some .int) 6 0 0 [.ref x, .int p1] w P) (fun w P => Ct l E yX8_rest cX8_rest 4 (some .int) 5 0 0 [.ref k, .int p1] w P) := by
  intro w6 w8 hv
  rcases hv with hv | hv
  · obtain ⟨u6, u8, hp6, hp8, hF, hN, hW⟩ := hv
    have hfd := hF.1
    have hby := hF.2.1
    have hkw := hF.2.2.1
    have h40z := hF.2.2.2.1
    have h40 := hF.2.2.2.2.1
    have hink2 := hF.2.2.2.2.2.1
    have hwt := hF.2.2.2.2.2.2.1
    have hdy := hF.2.2.2.2.2.2.2.1
    have hds := hF.2.2.2.2.2.2.2.2.1
    have hink := hF.2.2.2.2.2.2.2.2.2.1
    have ht := hF.2.2.2.2.2.2.2.2.2.2.1
    have ho := hF.2.2.2.2.2.2.2.2.2.2.2.1
    have hac := hF.2.2.2.2.2.2.2.2.2.2.2.2.1
    have him := hF.2.2.2.2.2.2.2.2.2.2.2.2.2.1
    have hc0 := hF.2.2.2.2.2.2.2.2.2.2.2.2.2.2.1
    have hc1 := hF.2.2.2.2.2.2.2.2.2.2.2.2.2.2.2.1
    have hc2 := hF.2.2.2.2.2.2.2.2.2.2.2.2.2.2.2.2.1
    have hc3 := hF.2.2.2.2.2.2.2.2.2.2.2.2.2.2.2.2.2.1
    have hc4 := hF.2.2.2.2.2.2.2.2.2.2.2.2.2.2.2.2.2.2.1
    have hc5 := hF.2.2.2.2.2.2.2.2.2.2.2.2.2.2.2.2.2.2.2.1
    have hc6 := hF.2.2.2.2.2.2.2.2.2.2.2.2.2.2.2.2.2.2.2.2.1
    have hc7 := hF.2.2.2.2.2.2.2.2.2.2.2.2.2.2.2.2.2.2.2.2.2
    have htr := hW.1
    have htl := hW.2.1
    have hy0 := hN.1
    have hy3 : (s6_cy u6) 3 = 0 := hy0 3 (by decide)
    have hy4 : (s6_cy u6) 4 = 0 := hy0 4 (by decide)
    have hy5 : (s6_cy u6) 5 = 0 := hy0 5 (by decide)
    have hy6 : (s6_cy u6) 6 = 0 := hy0 6 (by decide)
    refine ⟨(wrI (W6 E x (((s6_g u6), (s6_xa u6), (s6_ra u6), (s6_caz u6), (s6_ca u6), (s6_pq u6), (s6_fl u6), (chT ((s6_cy u6) 3) p1)), g6_1 u6, g6_2 u6, g6_3 u6, g6_4 u6, g6_5 u6, g6_6 u6, g6_7 u6, g6_8 u6, g6_9 u6, g6_10 u6)) (if chT ((s6_cy u6) 3) p1 = 0 then restV (fst_ (isRestB (tn p1)) 4 0) else (-1))), (wrI (W8n E k (((s6_g u6), (s6_xa u6), (s6_ra u6), (s6_caz u6), (s6_ca u6), (s6_pq u6), (s6_fl u6), (chT ((s6_cy u6) 3) p1)), g6_1 u6, g6_2 u6, g6_3 u6, g6_4 u6, g6_5 u6, g6_6 u6, g6_7 u6, g6_8 u6, g6_9 u6, g6_10 u6) (((s8_q u8), 0, 1, (-1), (s8_rr u8), (s8_z u8), (s8_nb u8), (s8_wa u8)), g8_1 u8, g8_2 u8, g8_3 u8, g8_4 u8)) ((-1))), Ct.perm hp6.symm (Ct.frI (c_X6_rest l E x (s6_xa u6) (s6_g u6) (s6_tr u6) (s6_fl u6) (s6_pl u6) (s6_cy u6) (s6_ca u6) p1 (by first | assumption | omega)) [0, 20] rfl rfl rfl rfl), Ct.perm hp8.symm (Ct.frI (c_X8_rest_n l E k (s8_th u8) (s8_tr8 u8) (s8_wh u8) (s8_rr u8) (s8_q u8) (upN (upN (upN (upN (s8_z u8) 6 (s6_fd u6)) 12 (s6_fl u6)) 19 (s6_ac u6)) 20 (s6_im u6)) (s8_nb u8) (s8_wa u8) (s8_wd u8) (s8_ev u8) (s8_al u8) (s8_wl u8) p1 ) [0] rfl rfl rfl rfl), fun r w h => ⟨_, h.2⟩, ?_⟩
    rintro r w r' w' ⟨rfl, rfl⟩ ⟨rfl, rfl⟩
    exact ⟨congrArg (fun z => some (Value.int z)) (if_neg (by rw [ch_1 hy3]; decide)), Or.inl ⟨(((s6_g u6), (s6_xa u6), (s6_ra u6), (s6_caz u6), (s6_ca u6), (s6_pq u6), (s6_fl u6), (chT ((s6_cy u6) 3) p1)), g6_1 u6, g6_2 u6, g6_3 u6, g6_4 u6, g6_5 u6, g6_6 u6, g6_7 u6, g6_8 u6, g6_9 u6, g6_10 u6), (((s8_q u8), 0, 1, (-1), (s8_rr u8), (s8_z u8), (s8_nb u8), (s8_wa u8)), g8_1 u8, g8_2 u8, g8_3 u8, g8_4 u8), List.Perm.refl _, List.Perm.refl _, hF, hN, tw_of 1 ((ch_1 hy3).symm) (by decide) (by decide)⟩⟩
  · obtain ⟨u6, u8, hp6, hp8, hF, hG, hP, hW⟩ := hv
    have hfd := hF.1
    have hby := hF.2.1
    have hkw := hF.2.2.1
    have h40z := hF.2.2.2.1
    have h40 := hF.2.2.2.2.1
    have hink2 := hF.2.2.2.2.2.1
    have hwt := hF.2.2.2.2.2.2.1
    have hdy := hF.2.2.2.2.2.2.2.1
    have hds := hF.2.2.2.2.2.2.2.2.1
    have hink := hF.2.2.2.2.2.2.2.2.2.1
    have ht := hF.2.2.2.2.2.2.2.2.2.2.1
    have ho := hF.2.2.2.2.2.2.2.2.2.2.2.1
    have hac := hF.2.2.2.2.2.2.2.2.2.2.2.2.1
    have him := hF.2.2.2.2.2.2.2.2.2.2.2.2.2.1
    have hc0 := hF.2.2.2.2.2.2.2.2.2.2.2.2.2.2.1
    have hc1 := hF.2.2.2.2.2.2.2.2.2.2.2.2.2.2.2.1
    have hc2 := hF.2.2.2.2.2.2.2.2.2.2.2.2.2.2.2.2.1
    have hc3 := hF.2.2.2.2.2.2.2.2.2.2.2.2.2.2.2.2.2.1
    have hc4 := hF.2.2.2.2.2.2.2.2.2.2.2.2.2.2.2.2.2.2.1
    have hc5 := hF.2.2.2.2.2.2.2.2.2.2.2.2.2.2.2.2.2.2.2.1
    have hc6 := hF.2.2.2.2.2.2.2.2.2.2.2.2.2.2.2.2.2.2.2.2.1
    have hc7 := hF.2.2.2.2.2.2.2.2.2.2.2.2.2.2.2.2.2.2.2.2.2
    have htr := hW.1
    have htl := hW.2.1
    have hgb := g8_b hc4 hc5 hc7 hG
    have hfo := hgb.1
    have hon := hgb.2.1
    have htw := hgb.2.2.1
    have hFs := hgb.2.2.2.1
    have hFt := hgb.2.2.2.2.1
    have hik := hgb.2.2.2.2.2.1
    have hun := hgb.2.2.2.2.2.2.1
    have hdi := hgb.2.2.2.2.2.2.2.1
    have hd2 := hgb.2.2.2.2.2.2.2.2.1
    have hd3 := hgb.2.2.2.2.2.2.2.2.2.1
    have hkp := hgb.2.2.2.2.2.2.2.2.2.2.1
    have hm1 := hgb.2.2.2.2.2.2.2.2.2.2.2.1
    have hal_ := hgb.2.2.2.2.2.2.2.2.2.2.2.2
    have hal := hal_ (s6_t u6)
    have hz : ∀ c, (s6_cy u6) 5 ≤ c → (s6_ink u6) c = 0 := hP.1.2.1
    have hmz : ∀ c, (s6_cy u6) 5 ≤ c → (s6_mn u6) c = -1 := hP.1.2.2.1
    have hdd9 : (s6_dd u6) ≤ 999 := hP.1.2.2.2.2
    have hw8 := w8_e hG
    have h30 : ¬ (s6_cy u6) 3 = 0 := by omega
    by_cases hs0 : 0 ≤ p1 ∧ p1 ≤ nI 9
    · have hs1 := hs0
      obtain ⟨d0, hd0, rfl⟩ := rg_nat (by decide) hs0
      have hd31 : d0 < 2 ^ 31 := by omega
      refine ⟨(wrI (W6 E x (((s6_g u6), (s6_xa u6), (s6_ra u6), (s6_caz u6), (s6_ca u6), (s6_pq u6), (s6_fl u6), (chT ((s6_cy u6) 3) (nI d0))), g6_1 u6, g6_2 u6, g6_3 u6, g6_4 u6, g6_5 u6, g6_6 u6, g6_7 u6, g6_8 u6, g6_9 u6, g6_10 u6)) (if chT ((s6_cy u6) 3) (nI d0) = 0 then restV (fst_ (isRestB (tn (nI d0))) 4 0) else (-1))), (wrI (W8c E k (((s6_g u6), (s6_xa u6), (s6_ra u6), (s6_caz u6), (s6_ca u6), (s6_pq u6), (s6_fl u6), (chT ((s6_cy u6) 3) (nI d0))), g6_1 u6, g6_2 u6, g6_3 u6, g6_4 u6, g6_5 u6, g6_6 u6, g6_7 u6, g6_8 u6, g6_9 u6, g6_10 u6) (((s8_q u8), 0, 0, (-1), (s8_rr u8), (s8_z u8), (s8_nb u8), (s8_wa u8)), g8_1 u8, g8_2 u8, g8_3 u8, g8_4 u8)) (restV (fst_ (isRestB d0) 4 0))), Ct.perm hp6.symm (Ct.frI (c_X6_rest l E x (s6_xa u6) (s6_g u6) (s6_tr u6) (s6_fl u6) (s6_pl u6) (s6_cy u6) (s6_ca u6) (nI d0) (by first | assumption | omega)) [0, 20] rfl rfl rfl rfl), Ct.perm hp8.symm (Ct.frI (c_X8_rest l E k (s8_th u8) (s8_tr8 u8) (s8_wh u8) (s8_g8 u8) (s8_rr u8) (s8_q u8) (upN (upN (upN (upN (s8_z u8) 6 (s6_fd u6)) 12 (s6_fl u6)) 19 (s6_ac u6)) 20 (s6_im u6)) (s8_nb u8) (s8_wa u8) (s8_wd u8) (s8_ev u8) (s8_al u8) (s8_wl u8) d0 (hd0)) [0] rfl rfl rfl rfl), fun r w h => ⟨_, h.2⟩, ?_⟩
      rintro r w r' w' ⟨rfl, rfl⟩ ⟨rfl, rfl⟩
      exact ⟨congrArg (fun z => some (Value.int z)) ((if_pos (ch_0 h30 hs1)).trans (by rw [tn_n hd31])), Or.inr ⟨(((s6_g u6), (s6_xa u6), (s6_ra u6), (s6_caz u6), (s6_ca u6), (s6_pq u6), (s6_fl u6), (chT ((s6_cy u6) 3) (nI d0))), g6_1 u6, g6_2 u6, g6_3 u6, g6_4 u6, g6_5 u6, g6_6 u6, g6_7 u6, g6_8 u6, g6_9 u6, g6_10 u6), (((s8_q u8), 0, 0, (-1), (s8_rr u8), (s8_z u8), (s8_nb u8), (s8_wa u8)), g8_1 u8, g8_2 u8, g8_3 u8, g8_4 u8), List.Perm.refl _, List.Perm.refl _, hF, hG, hP, tw_of 0 ((ch_0 h30 hs1).symm) (by decide) (by decide)⟩⟩
    · refine ⟨(wrI (W6 E x (((s6_g u6), (s6_xa u6), (s6_ra u6), (s6_caz u6), (s6_ca u6), (s6_pq u6), (s6_fl u6), (chT ((s6_cy u6) 3) p1)), g6_1 u6, g6_2 u6, g6_3 u6, g6_4 u6, g6_5 u6, g6_6 u6, g6_7 u6, g6_8 u6, g6_9 u6, g6_10 u6)) (if chT ((s6_cy u6) 3) p1 = 0 then restV (fst_ (isRestB (tn p1)) 4 0) else (-1))), (wrI (W8c E k (((s6_g u6), (s6_xa u6), (s6_ra u6), (s6_caz u6), (s6_ca u6), (s6_pq u6), (s6_fl u6), (chT ((s6_cy u6) 3) p1)), g6_1 u6, g6_2 u6, g6_3 u6, g6_4 u6, g6_5 u6, g6_6 u6, g6_7 u6, g6_8 u6, g6_9 u6, g6_10 u6) (((s8_q u8), 0, 2, (-1), (s8_rr u8), (s8_z u8), (s8_nb u8), (s8_wa u8)), g8_1 u8, g8_2 u8, g8_3 u8, g8_4 u8)) ((-1))), Ct.perm hp6.symm (Ct.frI (c_X6_rest l E x (s6_xa u6) (s6_g u6) (s6_tr u6) (s6_fl u6) (s6_pl u6) (s6_cy u6) (s6_ca u6) p1 (by first | assumption | omega)) [0, 20] rfl rfl rfl rfl), Ct.perm hp8.symm (Ct.frI (c_X8_rest_no2 l E k (s8_th u8) (s8_tr8 u8) (s8_wh u8) (s8_g8 u8) (s8_rr u8) (s8_q u8) (upN (upN (upN (upN (s8_z u8) 6 (s6_fd u6)) 12 (s6_fl u6)) 19 (s6_ac u6)) 20 (s6_im u6)) (s8_nb u8) (s8_wa u8) (s8_wd u8) (s8_ev u8) (s8_al u8) (s8_wl u8) p1 (hs0)) [0] rfl rfl rfl rfl), fun r w h => ⟨_, h.2⟩, ?_⟩
      rintro r w r' w' ⟨rfl, rfl⟩ ⟨rfl, rfl⟩
      exact ⟨congrArg (fun z => some (Value.int z)) (if_neg (by rw [ch_2 h30 hs0]; decide)), Or.inr ⟨(((s6_g u6), (s6_xa u6), (s6_ra u6), (s6_caz u6), (s6_ca u6), (s6_pq u6), (s6_fl u6), (chT ((s6_cy u6) 3) p1)), g6_1 u6, g6_2 u6, g6_3 u6, g6_4 u6, g6_5 u6, g6_6 u6, g6_7 u6, g6_8 u6, g6_9 u6, g6_10 u6), (((s8_q u8), 0, 2, (-1), (s8_rr u8), (s8_z u8), (s8_nb u8), (s8_wa u8)), g8_1 u8, g8_2 u8, g8_3 u8, g8_4 u8), List.Perm.refl _, List.Perm.refl _, hF, hG, hP, tw_of 2 ((ch_2 h30 hs0).symm) (by decide) (by decide)⟩⟩
set_option maxRecDepth 100000 in
set_option maxHeartbeats 4000000 in
theorem op_rained (l : Launch) (E : Et) (x k : Nat) (p1 : Int32) (p2 : Int32) : OpI E x k (fun w P => Ct l E yX6_rained cX6_rained 5 (some .int) 6 0 0 [.ref x, .int p1, .int p2] w P) (fun w P => Ct l E yX8_rained cX8_rained 5 (some .int) 5 0 0 [.ref k, .int p1, .int p2] w P) := by
  intro w6 w8 hv
  rcases hv with hv | hv
  · obtain ⟨u6, u8, hp6, hp8, hF, hN, hW⟩ := hv
    have hfd := hF.1
    have hby := hF.2.1
    have hkw := hF.2.2.1
    have h40z := hF.2.2.2.1
    have h40 := hF.2.2.2.2.1
    have hink2 := hF.2.2.2.2.2.1
    have hwt := hF.2.2.2.2.2.2.1
    have hdy := hF.2.2.2.2.2.2.2.1
    have hds := hF.2.2.2.2.2.2.2.2.1
    have hink := hF.2.2.2.2.2.2.2.2.2.1
    have ht := hF.2.2.2.2.2.2.2.2.2.2.1
    have ho := hF.2.2.2.2.2.2.2.2.2.2.2.1
    have hac := hF.2.2.2.2.2.2.2.2.2.2.2.2.1
    have him := hF.2.2.2.2.2.2.2.2.2.2.2.2.2.1
    have hc0 := hF.2.2.2.2.2.2.2.2.2.2.2.2.2.2.1
    have hc1 := hF.2.2.2.2.2.2.2.2.2.2.2.2.2.2.2.1
    have hc2 := hF.2.2.2.2.2.2.2.2.2.2.2.2.2.2.2.2.1
    have hc3 := hF.2.2.2.2.2.2.2.2.2.2.2.2.2.2.2.2.2.1
    have hc4 := hF.2.2.2.2.2.2.2.2.2.2.2.2.2.2.2.2.2.2.1
    have hc5 := hF.2.2.2.2.2.2.2.2.2.2.2.2.2.2.2.2.2.2.2.1
    have hc6 := hF.2.2.2.2.2.2.2.2.2.2.2.2.2.2.2.2.2.2.2.2.1
    have hc7 := hF.2.2.2.2.2.2.2.2.2.2.2.2.2.2.2.2.2.2.2.2.2
    have htr := hW.1
    have htl := hW.2.1
    have hy0 := hN.1
    have hy3 : (s6_cy u6) 3 = 0 := hy0 3 (by decide)
    have hy4 : (s6_cy u6) 4 = 0 := hy0 4 (by decide)
    have hy5 : (s6_cy u6) 5 = 0 := hy0 5 (by decide)
    have hy6 : (s6_cy u6) 6 = 0 := hy0 6 (by decide)
    refine ⟨(wrI (W6 E x (((s6_g u6), (s6_xa u6), (s6_ra u6), (s6_caz u6), (s6_ca u6), (s6_pq u6), (s6_fl u6), (if (s6_cy u6) 3 = 0 then 1 else (if (0 ≤ p1 ∧ p1 < nI 65537) ∧ (0 ≤ p2 ∧ p2 ≤ nI 60) then 0 else 2))), g6_1 u6, g6_2 u6, g6_3 u6, g6_4 u6, g6_5 u6, g6_6 u6, g6_7 u6, ((if ¬ (s6_cy u6) 3 = 0 ∧ (0 ≤ p1 ∧ p1 < nI 65537) ∧ (0 ≤ p2 ∧ p2 ≤ nI 60) then (s6_t u6) else (s6_t4 u6)), (if ¬ (s6_cy u6) 3 = 0 ∧ (0 ≤ p1 ∧ p1 < nI 65537) ∧ (0 ≤ p2 ∧ p2 ≤ nI 60) then (s6_dd u6) + tn p2 else (s6_d4 u6)), (if ¬ (s6_cy u6) 3 = 0 ∧ (0 ≤ p1 ∧ p1 < nI 65537) ∧ (0 ≤ p2 ∧ p2 ≤ nI 60) then (rainIt ((s6_cy u6) 2) (tn p2) ((s6_ink u6), tn p1)).1 else (s6_ink4 u6)), (if ¬ (s6_cy u6) 3 = 0 ∧ (0 ≤ p1 ∧ p1 < nI 65537) ∧ (0 ≤ p2 ∧ p2 ≤ nI 60) then (s6_mn u6) else (s6_mn4 u6)), (s6_o u6), (s6_ac u6), (s6_im u6), (s6_hw u6)), g6_9 u6, g6_10 u6)) (if (s6_cy u6) 3 = 0 then (-1) else (if (0 ≤ p1 ∧ p1 < nI 65537) ∧ (0 ≤ p2 ∧ p2 ≤ nI 60) then nI (bindB (rainIt ((s6_cy u6) 2) (tn p2) ((s6_ink u6), tn p1)).1) else (-1)))), (wrI (W8n E k (((s6_g u6), (s6_xa u6), (s6_ra u6), (s6_caz u6), (s6_ca u6), (s6_pq u6), (s6_fl u6), (if (s6_cy u6) 3 = 0 then 1 else (if (0 ≤ p1 ∧ p1 < nI 65537) ∧ (0 ≤ p2 ∧ p2 ≤ nI 60) then 0 else 2))), g6_1 u6, g6_2 u6, g6_3 u6, g6_4 u6, g6_5 u6, g6_6 u6, g6_7 u6, ((if ¬ (s6_cy u6) 3 = 0 ∧ (0 ≤ p1 ∧ p1 < nI 65537) ∧ (0 ≤ p2 ∧ p2 ≤ nI 60) then (s6_t u6) else (s6_t4 u6)), (if ¬ (s6_cy u6) 3 = 0 ∧ (0 ≤ p1 ∧ p1 < nI 65537) ∧ (0 ≤ p2 ∧ p2 ≤ nI 60) then (s6_dd u6) + tn p2 else (s6_d4 u6)), (if ¬ (s6_cy u6) 3 = 0 ∧ (0 ≤ p1 ∧ p1 < nI 65537) ∧ (0 ≤ p2 ∧ p2 ≤ nI 60) then (rainIt ((s6_cy u6) 2) (tn p2) ((s6_ink u6), tn p1)).1 else (s6_ink4 u6)), (if ¬ (s6_cy u6) 3 = 0 ∧ (0 ≤ p1 ∧ p1 < nI 65537) ∧ (0 ≤ p2 ∧ p2 ≤ nI 60) then (s6_mn u6) else (s6_mn4 u6)), (s6_o u6), (s6_ac u6), (s6_im u6), (s6_hw u6)), g6_9 u6, g6_10 u6) (((s8_q u8), 0, 1, (-1), (s8_rr u8), (s8_z u8), (s8_nb u8), (s8_wa u8)), g8_1 u8, g8_2 u8, g8_3 u8, g8_4 u8)) ((-1))), Ct.perm hp6.symm (Ct.frI (c_X6_rained l E x (s6_xa u6) (s6_g u6) (s6_tr u6) (s6_fl u6) (s6_pl u6) (s6_cy u6) (s6_ca u6) (s6_hi u6) (s6_hm u6) (s6_t u6) (s6_dd u6) (s6_ink u6) (s6_mn u6) (s6_ri u6) (s6_rm u6) (s6_t4 u6) (s6_d4 u6) (s6_ink4 u6) (s6_mn4 u6) p1 p2 (by first | assumption | omega) (by first | assumption | omega) (by first | assumption | omega)) [0, 20, 36, 37, 38, 39, 40, 41] rfl rfl rfl rfl), Ct.perm hp8.symm (Ct.frI (c_X8_rained_n l E k (s8_th u8) (s8_tr8 u8) (s8_wh u8) (s8_rr u8) (s8_q u8) (upN (upN (upN (upN (s8_z u8) 6 (s6_fd u6)) 12 (s6_fl u6)) 19 (s6_ac u6)) 20 (s6_im u6)) (s8_nb u8) (s8_wa u8) (s8_wd u8) (s8_ev u8) (s8_al u8) (s8_wl u8) p1 p2 ) [0] rfl rfl rfl rfl), fun r w h => ⟨_, h.2⟩, ?_⟩
    rintro r w r' w' ⟨rfl, rfl⟩ ⟨rfl, rfl⟩
    exact ⟨congrArg (fun z => some (Value.int z)) (if_pos hy3), Or.inl ⟨(((s6_g u6), (s6_xa u6), (s6_ra u6), (s6_caz u6), (s6_ca u6), (s6_pq u6), (s6_fl u6), (if (s6_cy u6) 3 = 0 then 1 else (if (0 ≤ p1 ∧ p1 < nI 65537) ∧ (0 ≤ p2 ∧ p2 ≤ nI 60) then 0 else 2))), g6_1 u6, g6_2 u6, g6_3 u6, g6_4 u6, g6_5 u6, g6_6 u6, g6_7 u6, ((if ¬ (s6_cy u6) 3 = 0 ∧ (0 ≤ p1 ∧ p1 < nI 65537) ∧ (0 ≤ p2 ∧ p2 ≤ nI 60) then (s6_t u6) else (s6_t4 u6)), (if ¬ (s6_cy u6) 3 = 0 ∧ (0 ≤ p1 ∧ p1 < nI 65537) ∧ (0 ≤ p2 ∧ p2 ≤ nI 60) then (s6_dd u6) + tn p2 else (s6_d4 u6)), (if ¬ (s6_cy u6) 3 = 0 ∧ (0 ≤ p1 ∧ p1 < nI 65537) ∧ (0 ≤ p2 ∧ p2 ≤ nI 60) then (rainIt ((s6_cy u6) 2) (tn p2) ((s6_ink u6), tn p1)).1 else (s6_ink4 u6)), (if ¬ (s6_cy u6) 3 = 0 ∧ (0 ≤ p1 ∧ p1 < nI 65537) ∧ (0 ≤ p2 ∧ p2 ≤ nI 60) then (s6_mn u6) else (s6_mn4 u6)), (s6_o u6), (s6_ac u6), (s6_im u6), (s6_hw u6)), g6_9 u6, g6_10 u6), (((s8_q u8), 0, 1, (-1), (s8_rr u8), (s8_z u8), (s8_nb u8), (s8_wa u8)), g8_1 u8, g8_2 u8, g8_3 u8, g8_4 u8), List.Perm.refl _, List.Perm.refl _, hF, hN, tw_of 1 ((if_pos hy3).symm) (by decide) (by decide)⟩⟩
  · obtain ⟨u6, u8, hp6, hp8, hF, hG, hP, hW⟩ := hv
    have hfd := hF.1
    have hby := hF.2.1
    have hkw := hF.2.2.1
    have h40z := hF.2.2.2.1
    have h40 := hF.2.2.2.2.1
    have hink2 := hF.2.2.2.2.2.1
    have hwt := hF.2.2.2.2.2.2.1
    have hdy := hF.2.2.2.2.2.2.2.1
    have hds := hF.2.2.2.2.2.2.2.2.1
    have hink := hF.2.2.2.2.2.2.2.2.2.1
    have ht := hF.2.2.2.2.2.2.2.2.2.2.1
    have ho := hF.2.2.2.2.2.2.2.2.2.2.2.1
    have hac := hF.2.2.2.2.2.2.2.2.2.2.2.2.1
    have him := hF.2.2.2.2.2.2.2.2.2.2.2.2.2.1
    have hc0 := hF.2.2.2.2.2.2.2.2.2.2.2.2.2.2.1
    have hc1 := hF.2.2.2.2.2.2.2.2.2.2.2.2.2.2.2.1
    have hc2 := hF.2.2.2.2.2.2.2.2.2.2.2.2.2.2.2.2.1
    have hc3 := hF.2.2.2.2.2.2.2.2.2.2.2.2.2.2.2.2.2.1
    have hc4 := hF.2.2.2.2.2.2.2.2.2.2.2.2.2.2.2.2.2.2.1
    have hc5 := hF.2.2.2.2.2.2.2.2.2.2.2.2.2.2.2.2.2.2.2.1
    have hc6 := hF.2.2.2.2.2.2.2.2.2.2.2.2.2.2.2.2.2.2.2.2.1
    have hc7 := hF.2.2.2.2.2.2.2.2.2.2.2.2.2.2.2.2.2.2.2.2.2
    have htr := hW.1
    have htl := hW.2.1
    have hgb := g8_b hc4 hc5 hc7 hG
    have hfo := hgb.1
    have hon := hgb.2.1
    have htw := hgb.2.2.1
    have hFs := hgb.2.2.2.1
    have hFt := hgb.2.2.2.2.1
    have hik := hgb.2.2.2.2.2.1
    have hun := hgb.2.2.2.2.2.2.1
    have hdi := hgb.2.2.2.2.2.2.2.1
    have hd2 := hgb.2.2.2.2.2.2.2.2.1
    have hd3 := hgb.2.2.2.2.2.2.2.2.2.1
    have hkp := hgb.2.2.2.2.2.2.2.2.2.2.1
    have hm1 := hgb.2.2.2.2.2.2.2.2.2.2.2.1
    have hal_ := hgb.2.2.2.2.2.2.2.2.2.2.2.2
    have hal := hal_ (s6_t u6)
    have hz : ∀ c, (s6_cy u6) 5 ≤ c → (s6_ink u6) c = 0 := hP.1.2.1
    have hmz : ∀ c, (s6_cy u6) 5 ≤ c → (s6_mn u6) c = -1 := hP.1.2.2.1
    have hdd9 : (s6_dd u6) ≤ 999 := hP.1.2.2.2.2
    have hw8 := w8_e hG
    have h30 : ¬ (s6_cy u6) 3 = 0 := by omega
    by_cases hs0 : (0 ≤ p1 ∧ p1 < nI 65537) ∧ (0 ≤ p2 ∧ p2 ≤ nI 60)
    · obtain ⟨e0, he0, rfl⟩ := okM_nat hs0.1 (by decide)
      have hs1 := hs0
      obtain ⟨d0, hd0, rfl⟩ := rg_nat (by decide) hs0.2
      have hd31 : d0 < 2 ^ 31 := by omega
      have he31 : e0 < 2 ^ 31 := by omega
      refine ⟨(wrI (W6 E x (((s6_g u6), (s6_xa u6), (s6_ra u6), (s6_caz u6), (s6_ca u6), (s6_pq u6), (s6_fl u6), (if (s6_cy u6) 3 = 0 then 1 else (if (0 ≤ (nI e0) ∧ (nI e0) < nI 65537) ∧ (0 ≤ (nI d0) ∧ (nI d0) ≤ nI 60) then 0 else 2))), g6_1 u6, g6_2 u6, g6_3 u6, g6_4 u6, g6_5 u6, g6_6 u6, g6_7 u6, ((if ¬ (s6_cy u6) 3 = 0 ∧ (0 ≤ (nI e0) ∧ (nI e0) < nI 65537) ∧ (0 ≤ (nI d0) ∧ (nI d0) ≤ nI 60) then (s6_t u6) else (s6_t4 u6)), (if ¬ (s6_cy u6) 3 = 0 ∧ (0 ≤ (nI e0) ∧ (nI e0) < nI 65537) ∧ (0 ≤ (nI d0) ∧ (nI d0) ≤ nI 60) then (s6_dd u6) + tn (nI d0) else (s6_d4 u6)), (if ¬ (s6_cy u6) 3 = 0 ∧ (0 ≤ (nI e0) ∧ (nI e0) < nI 65537) ∧ (0 ≤ (nI d0) ∧ (nI d0) ≤ nI 60) then (rainIt ((s6_cy u6) 2) (tn (nI d0)) ((s6_ink u6), tn (nI e0))).1 else (s6_ink4 u6)), (if ¬ (s6_cy u6) 3 = 0 ∧ (0 ≤ (nI e0) ∧ (nI e0) < nI 65537) ∧ (0 ≤ (nI d0) ∧ (nI d0) ≤ nI 60) then (s6_mn u6) else (s6_mn4 u6)), (s6_o u6), (s6_ac u6), (s6_im u6), (s6_hw u6)), g6_9 u6, g6_10 u6)) (if (s6_cy u6) 3 = 0 then (-1) else (if (0 ≤ (nI e0) ∧ (nI e0) < nI 65537) ∧ (0 ≤ (nI d0) ∧ (nI d0) ≤ nI 60) then nI (bindB (rainIt ((s6_cy u6) 2) (tn (nI d0)) ((s6_ink u6), tn (nI e0))).1) else (-1)))), (wrI (W8c E k (((s6_g u6), (s6_xa u6), (s6_ra u6), (s6_caz u6), (s6_ca u6), (s6_pq u6), (s6_fl u6), (if (s6_cy u6) 3 = 0 then 1 else (if (0 ≤ (nI e0) ∧ (nI e0) < nI 65537) ∧ (0 ≤ (nI d0) ∧ (nI d0) ≤ nI 60) then 0 else 2))), g6_1 u6, g6_2 u6, g6_3 u6, g6_4 u6, g6_5 u6, g6_6 u6, g6_7 u6, ((if ¬ (s6_cy u6) 3 = 0 ∧ (0 ≤ (nI e0) ∧ (nI e0) < nI 65537) ∧ (0 ≤ (nI d0) ∧ (nI d0) ≤ nI 60) then (s6_t u6) else (s6_t4 u6)), (if ¬ (s6_cy u6) 3 = 0 ∧ (0 ≤ (nI e0) ∧ (nI e0) < nI 65537) ∧ (0 ≤ (nI d0) ∧ (nI d0) ≤ nI 60) then (s6_dd u6) + tn (nI d0) else (s6_d4 u6)), (if ¬ (s6_cy u6) 3 = 0 ∧ (0 ≤ (nI e0) ∧ (nI e0) < nI 65537) ∧ (0 ≤ (nI d0) ∧ (nI d0) ≤ nI 60) then (rainIt ((s6_cy u6) 2) (tn (nI d0)) ((s6_ink u6), tn (nI e0))).1 else (s6_ink4 u6)), (if ¬ (s6_cy u6) 3 = 0 ∧ (0 ≤ (nI e0) ∧ (nI e0) < nI 65537) ∧ (0 ≤ (nI d0) ∧ (nI d0) ≤ nI 60) then (s6_mn u6) else (s6_mn4 u6)), (s6_o u6), (s6_ac u6), (s6_im u6), (s6_hw u6)), g6_9 u6, g6_10 u6) (((s8_q u8), 0, 0, (-1), (s8_rr u8), (upN (s8_z u8) 29 ((rainIt ((s6_cy u6) 2) d0 ((s6_ink u6), e0)).2)), (s8_nb u8), (s8_wa u8)), ((s8_wd u8), (s8_ev u8), (s8_al u8), (s8_wl u8), (xF (s6_mn u6) (rainIt ((s6_cy u6) 2) d0 ((s6_ink u6), e0)).1 (s6_t u6) ((s6_dd u6) + d0)), (s8_pp u8), (s8_pj8 u8), (s8_ke u8)), g8_2 u8, g8_3 u8, g8_4 u8)) (nI (bindB (rainIt ((s6_cy u6) 2) d0 ((s6_ink u6), e0)).1))), Ct.perm hp6.symm (Ct.frI (c_X6_rained l E x (s6_xa u6) (s6_g u6) (s6_tr u6) (s6_fl u6) (s6_pl u6) (s6_cy u6) (s6_ca u6) (s6_hi u6) (s6_hm u6) (s6_t u6) (s6_dd u6) (s6_ink u6) (s6_mn u6) (s6_ri u6) (s6_rm u6) (s6_t4 u6) (s6_d4 u6) (s6_ink4 u6) (s6_mn4 u6) (nI e0) (nI d0) (by first | assumption | omega) (by first | assumption | omega) (by first | assumption | omega)) [0, 20, 36, 37, 38, 39, 40, 41] rfl rfl rfl rfl), Ct.perm hp8.symm (Ct.frI (c_X8_rained l E k (s8_th u8) (s8_tr8 u8) (s8_wh u8) (s8_g8 u8) (s8_rr u8) (s8_q u8) (upN (upN (upN (upN (s8_z u8) 6 (s6_fd u6)) 12 (s6_fl u6)) 19 (s6_ac u6)) 20 (s6_im u6)) (s8_nb u8) (s8_wa u8) (s8_wd u8) (s8_ev u8) (s8_al u8) (s8_wl u8) (s6_cy u6) (s8_kp u8) (s8_nc u8) (s8_cb u8) (s8_xf u8) (s6_mn u6) (s6_ink u6) (s6_t u6) (s6_dd u6) ((s8_z u8) 29) e0 d0 (by first | assumption | omega) (by first | assumption | omega) (by first | assumption | omega) (by first | assumption | omega) (he0) (hd0)) [0, 10, 2, 3] rfl rfl rfl rfl), fun r w h => ⟨_, h.2⟩, ?_⟩
      rintro r w r' w' ⟨rfl, rfl⟩ ⟨rfl, rfl⟩
      exact ⟨congrArg (fun z => some (Value.int z)) ((if_neg h30).trans ((if_pos hs1).trans (by rw [tn_n hd31, tn_n he31]))), Or.inr ⟨(((s6_g u6), (s6_xa u6), (s6_ra u6), (s6_caz u6), (s6_ca u6), (s6_pq u6), (s6_fl u6), (if (s6_cy u6) 3 = 0 then 1 else (if (0 ≤ (nI e0) ∧ (nI e0) < nI 65537) ∧ (0 ≤ (nI d0) ∧ (nI d0) ≤ nI 60) then 0 else 2))), g6_1 u6, g6_2 u6, g6_3 u6, g6_4 u6, g6_5 u6, g6_6 u6, g6_7 u6, ((if ¬ (s6_cy u6) 3 = 0 ∧ (0 ≤ (nI e0) ∧ (nI e0) < nI 65537) ∧ (0 ≤ (nI d0) ∧ (nI d0) ≤ nI 60) then (s6_t u6) else (s6_t4 u6)), (if ¬ (s6_cy u6) 3 = 0 ∧ (0 ≤ (nI e0) ∧ (nI e0) < nI 65537) ∧ (0 ≤ (nI d0) ∧ (nI d0) ≤ nI 60) then (s6_dd u6) + tn (nI d0) else (s6_d4 u6)), (if ¬ (s6_cy u6) 3 = 0 ∧ (0 ≤ (nI e0) ∧ (nI e0) < nI 65537) ∧ (0 ≤ (nI d0) ∧ (nI d0) ≤ nI 60) then (rainIt ((s6_cy u6) 2) (tn (nI d0)) ((s6_ink u6), tn (nI e0))).1 else (s6_ink4 u6)), (if ¬ (s6_cy u6) 3 = 0 ∧ (0 ≤ (nI e0) ∧ (nI e0) < nI 65537) ∧ (0 ≤ (nI d0) ∧ (nI d0) ≤ nI 60) then (s6_mn u6) else (s6_mn4 u6)), (s6_o u6), (s6_ac u6), (s6_im u6), (s6_hw u6)), g6_9 u6, g6_10 u6), (((s8_q u8), 0, 0, (-1), (s8_rr u8), (upN (s8_z u8) 29 ((rainIt ((s6_cy u6) 2) d0 ((s6_ink u6), e0)).2)), (s8_nb u8), (s8_wa u8)), ((s8_wd u8), (s8_ev u8), (s8_al u8), (s8_wl u8), (xF (s6_mn u6) (rainIt ((s6_cy u6) 2) d0 ((s6_ink u6), e0)).1 (s6_t u6) ((s6_dd u6) + d0)), (s8_pp u8), (s8_pj8 u8), (s8_ke u8)), g8_2 u8, g8_3 u8, g8_4 u8), List.Perm.refl _, List.Perm.refl _, hF, hG, hP, tw_of 0 (((if_neg h30).trans (if_pos hs1)).symm) (by decide) (by decide)⟩⟩
    · refine ⟨(wrI (W6 E x (((s6_g u6), (s6_xa u6), (s6_ra u6), (s6_caz u6), (s6_ca u6), (s6_pq u6), (s6_fl u6), (if (s6_cy u6) 3 = 0 then 1 else (if (0 ≤ p1 ∧ p1 < nI 65537) ∧ (0 ≤ p2 ∧ p2 ≤ nI 60) then 0 else 2))), g6_1 u6, g6_2 u6, g6_3 u6, g6_4 u6, g6_5 u6, g6_6 u6, g6_7 u6, ((if ¬ (s6_cy u6) 3 = 0 ∧ (0 ≤ p1 ∧ p1 < nI 65537) ∧ (0 ≤ p2 ∧ p2 ≤ nI 60) then (s6_t u6) else (s6_t4 u6)), (if ¬ (s6_cy u6) 3 = 0 ∧ (0 ≤ p1 ∧ p1 < nI 65537) ∧ (0 ≤ p2 ∧ p2 ≤ nI 60) then (s6_dd u6) + tn p2 else (s6_d4 u6)), (if ¬ (s6_cy u6) 3 = 0 ∧ (0 ≤ p1 ∧ p1 < nI 65537) ∧ (0 ≤ p2 ∧ p2 ≤ nI 60) then (rainIt ((s6_cy u6) 2) (tn p2) ((s6_ink u6), tn p1)).1 else (s6_ink4 u6)), (if ¬ (s6_cy u6) 3 = 0 ∧ (0 ≤ p1 ∧ p1 < nI 65537) ∧ (0 ≤ p2 ∧ p2 ≤ nI 60) then (s6_mn u6) else (s6_mn4 u6)), (s6_o u6), (s6_ac u6), (s6_im u6), (s6_hw u6)), g6_9 u6, g6_10 u6)) (if (s6_cy u6) 3 = 0 then (-1) else (if (0 ≤ p1 ∧ p1 < nI 65537) ∧ (0 ≤ p2 ∧ p2 ≤ nI 60) then nI (bindB (rainIt ((s6_cy u6) 2) (tn p2) ((s6_ink u6), tn p1)).1) else (-1)))), (wrI (W8c E k (((s6_g u6), (s6_xa u6), (s6_ra u6), (s6_caz u6), (s6_ca u6), (s6_pq u6), (s6_fl u6), (if (s6_cy u6) 3 = 0 then 1 else (if (0 ≤ p1 ∧ p1 < nI 65537) ∧ (0 ≤ p2 ∧ p2 ≤ nI 60) then 0 else 2))), g6_1 u6, g6_2 u6, g6_3 u6, g6_4 u6, g6_5 u6, g6_6 u6, g6_7 u6, ((if ¬ (s6_cy u6) 3 = 0 ∧ (0 ≤ p1 ∧ p1 < nI 65537) ∧ (0 ≤ p2 ∧ p2 ≤ nI 60) then (s6_t u6) else (s6_t4 u6)), (if ¬ (s6_cy u6) 3 = 0 ∧ (0 ≤ p1 ∧ p1 < nI 65537) ∧ (0 ≤ p2 ∧ p2 ≤ nI 60) then (s6_dd u6) + tn p2 else (s6_d4 u6)), (if ¬ (s6_cy u6) 3 = 0 ∧ (0 ≤ p1 ∧ p1 < nI 65537) ∧ (0 ≤ p2 ∧ p2 ≤ nI 60) then (rainIt ((s6_cy u6) 2) (tn p2) ((s6_ink u6), tn p1)).1 else (s6_ink4 u6)), (if ¬ (s6_cy u6) 3 = 0 ∧ (0 ≤ p1 ∧ p1 < nI 65537) ∧ (0 ≤ p2 ∧ p2 ≤ nI 60) then (s6_mn u6) else (s6_mn4 u6)), (s6_o u6), (s6_ac u6), (s6_im u6), (s6_hw u6)), g6_9 u6, g6_10 u6) (((s8_q u8), 0, 2, (-1), (s8_rr u8), (s8_z u8), (s8_nb u8), (s8_wa u8)), g8_1 u8, g8_2 u8, g8_3 u8, g8_4 u8)) ((-1))), Ct.perm hp6.symm (Ct.frI (c_X6_rained l E x (s6_xa u6) (s6_g u6) (s6_tr u6) (s6_fl u6) (s6_pl u6) (s6_cy u6) (s6_ca u6) (s6_hi u6) (s6_hm u6) (s6_t u6) (s6_dd u6) (s6_ink u6) (s6_mn u6) (s6_ri u6) (s6_rm u6) (s6_t4 u6) (s6_d4 u6) (s6_ink4 u6) (s6_mn4 u6) p1 p2 (by first | assumption | omega) (by first | assumption | omega) (by first | assumption | omega)) [0, 20, 36, 37, 38, 39, 40, 41] rfl rfl rfl rfl), Ct.perm hp8.symm (Ct.frI (c_X8_rained_no2 l E k (s8_th u8) (s8_tr8 u8) (s8_wh u8) (s8_g8 u8) (s8_rr u8) (s8_q u8) (upN (upN (upN (upN (s8_z u8) 6 (s6_fd u6)) 12 (s6_fl u6)) 19 (s6_ac u6)) 20 (s6_im u6)) (s8_nb u8) (s8_wa u8) (s8_wd u8) (s8_ev u8) (s8_al u8) (s8_wl u8) (s6_cy u6) (s8_kp u8) (s8_nc u8) (s8_cb u8) p1 p2 (fun z => hs0 ⟨sd_e.mp z.1, z.2⟩)) [0, 10] rfl rfl rfl rfl), fun r w h => ⟨_, h.2⟩, ?_⟩
      rintro r w r' w' ⟨rfl, rfl⟩ ⟨rfl, rfl⟩
      exact ⟨congrArg (fun z => some (Value.int z)) ((if_neg h30).trans (if_neg hs0)), Or.inr ⟨(((s6_g u6), (s6_xa u6), (s6_ra u6), (s6_caz u6), (s6_ca u6), (s6_pq u6), (s6_fl u6), (if (s6_cy u6) 3 = 0 then 1 else (if (0 ≤ p1 ∧ p1 < nI 65537) ∧ (0 ≤ p2 ∧ p2 ≤ nI 60) then 0 else 2))), g6_1 u6, g6_2 u6, g6_3 u6, g6_4 u6, g6_5 u6, g6_6 u6, g6_7 u6, ((if ¬ (s6_cy u6) 3 = 0 ∧ (0 ≤ p1 ∧ p1 < nI 65537) ∧ (0 ≤ p2 ∧ p2 ≤ nI 60) then (s6_t u6) else (s6_t4 u6)), (if ¬ (s6_cy u6) 3 = 0 ∧ (0 ≤ p1 ∧ p1 < nI 65537) ∧ (0 ≤ p2 ∧ p2 ≤ nI 60) then (s6_dd u6) + tn p2 else (s6_d4 u6)), (if ¬ (s6_cy u6) 3 = 0 ∧ (0 ≤ p1 ∧ p1 < nI 65537) ∧ (0 ≤ p2 ∧ p2 ≤ nI 60) then (rainIt ((s6_cy u6) 2) (tn p2) ((s6_ink u6), tn p1)).1 else (s6_ink4 u6)), (if ¬ (s6_cy u6) 3 = 0 ∧ (0 ≤ p1 ∧ p1 < nI 65537) ∧ (0 ≤ p2 ∧ p2 ≤ nI 60) then (s6_mn u6) else (s6_mn4 u6)), (s6_o u6), (s6_ac u6), (s6_im u6), (s6_hw u6)), g6_9 u6, g6_10 u6), (((s8_q u8), 0, 2, (-1), (s8_rr u8), (s8_z u8), (s8_nb u8), (s8_wa u8)), g8_1 u8, g8_2 u8, g8_3 u8, g8_4 u8), List.Perm.refl _, List.Perm.refl _, hF, hG, hP, tw_of 2 (((if_neg h30).trans (if_neg hs0)).symm) (by decide) (by decide)⟩⟩
set_option maxRecDepth 100000 in
set_option maxHeartbeats 4000000 in
theorem op_freeBy (l : Launch) (E : Et) (x k : Nat) (p1 : Int32) (p2 : Int32) (p3 : Int32) : OpI E x k (fun w P => Ct l E yX6_freeBy cX6_freeBy 6 (some .int) 6 0 0 [.ref x, .int p1, .int p2, .int p3] w P) (fun w P => Ct l E yX8_freeBy cX8_freeBy 6 (some .int) 5 0 0 [.ref k, .int p1, .int p2, .int p3] w P) := by
  intro w6 w8 hv
  rcases hv with hv | hv
  · obtain ⟨u6, u8, hp6, hp8, hF, hN, hW⟩ := hv
    have hfd := hF.1
    have hby := hF.2.1
    have hkw := hF.2.2.1
    have h40z := hF.2.2.2.1
    have h40 := hF.2.2.2.2.1
    have hink2 := hF.2.2.2.2.2.1
    have hwt := hF.2.2.2.2.2.2.1
    have hdy := hF.2.2.2.2.2.2.2.1
    have hds := hF.2.2.2.2.2.2.2.2.1
    have hink := hF.2.2.2.2.2.2.2.2.2.1
    have ht := hF.2.2.2.2.2.2.2.2.2.2.1
    have ho := hF.2.2.2.2.2.2.2.2.2.2.2.1
    have hac := hF.2.2.2.2.2.2.2.2.2.2.2.2.1
    have him := hF.2.2.2.2.2.2.2.2.2.2.2.2.2.1
    have hc0 := hF.2.2.2.2.2.2.2.2.2.2.2.2.2.2.1
    have hc1 := hF.2.2.2.2.2.2.2.2.2.2.2.2.2.2.2.1
    have hc2 := hF.2.2.2.2.2.2.2.2.2.2.2.2.2.2.2.2.1
    have hc3 := hF.2.2.2.2.2.2.2.2.2.2.2.2.2.2.2.2.2.1
    have hc4 := hF.2.2.2.2.2.2.2.2.2.2.2.2.2.2.2.2.2.2.1
    have hc5 := hF.2.2.2.2.2.2.2.2.2.2.2.2.2.2.2.2.2.2.2.1
    have hc6 := hF.2.2.2.2.2.2.2.2.2.2.2.2.2.2.2.2.2.2.2.2.1
    have hc7 := hF.2.2.2.2.2.2.2.2.2.2.2.2.2.2.2.2.2.2.2.2.2
    have htr := hW.1
    have htl := hW.2.1
    have hy0 := hN.1
    have hy3 : (s6_cy u6) 3 = 0 := hy0 3 (by decide)
    have hy4 : (s6_cy u6) 4 = 0 := hy0 4 (by decide)
    have hy5 : (s6_cy u6) 5 = 0 := hy0 5 (by decide)
    have hy6 : (s6_cy u6) 6 = 0 := hy0 6 (by decide)
    refine ⟨(wrI (W6 E x (((s6_g u6), (s6_xa u6), (s6_ra u6), (s6_caz u6), (s6_ca u6), (s6_pq u6), (s6_fl u6), (if okM p1 ((s6_cy u6) 3) then (if (0 ≤ p2 ∧ p2 < nI 65537) ∧ (0 ≤ p3 ∧ p3 ≤ nI 60) then 0 else 2) else 1)), g6_1 u6, g6_2 u6, g6_3 u6, g6_4 u6, g6_5 u6, g6_6 u6, g6_7 u6, ((if okM p1 ((s6_cy u6) 3) ∧ (0 ≤ p2 ∧ p2 < nI 65537) ∧ (0 ≤ p3 ∧ p3 ≤ nI 60) then (s6_t u6) else (s6_t4 u6)), (if okM p1 ((s6_cy u6) 3) ∧ (0 ≤ p2 ∧ p2 < nI 65537) ∧ (0 ≤ p3 ∧ p3 ≤ nI 60) then (s6_dd u6) + (fst_ (frP (s6_cy u6) (s6_Fs u6) (s6_Ft u6) (s6_ink u6) (s6_mn u6) (s6_t u6) (tn p2) p1) (tn p3 + 1) 0).getD (tn p3 + 1) else (s6_d4 u6)), (if okM p1 ((s6_cy u6) 3) ∧ (0 ≤ p2 ∧ p2 < nI 65537) ∧ (0 ≤ p3 ∧ p3 ≤ nI 60) then (rainIt ((s6_cy u6) 2) ((fst_ (frP (s6_cy u6) (s6_Fs u6) (s6_Ft u6) (s6_ink u6) (s6_mn u6) (s6_t u6) (tn p2) p1) (tn p3 + 1) 0).getD (tn p3 + 1)) ((s6_ink u6), tn p2)).1 else (s6_ink4 u6)), (if okM p1 ((s6_cy u6) 3) ∧ (0 ≤ p2 ∧ p2 < nI 65537) ∧ (0 ≤ p3 ∧ p3 ≤ nI 60) then (s6_mn u6) else (s6_mn4 u6)), (s6_o u6), (s6_ac u6), (s6_im u6), (s6_hw u6)), g6_9 u6, g6_10 u6)) (if okM p1 ((s6_cy u6) 3) then (if (0 ≤ p2 ∧ p2 < nI 65537) ∧ (0 ≤ p3 ∧ p3 ≤ nI 60) then optI (fst_ (frP (s6_cy u6) (s6_Fs u6) (s6_Ft u6) (s6_ink u6) (s6_mn u6) (s6_t u6) (tn p2) p1) (tn p3 + 1) 0) else (-1)) else (-1))), (wrI (W8n E k (((s6_g u6), (s6_xa u6), (s6_ra u6), (s6_caz u6), (s6_ca u6), (s6_pq u6), (s6_fl u6), (if okM p1 ((s6_cy u6) 3) then (if (0 ≤ p2 ∧ p2 < nI 65537) ∧ (0 ≤ p3 ∧ p3 ≤ nI 60) then 0 else 2) else 1)), g6_1 u6, g6_2 u6, g6_3 u6, g6_4 u6, g6_5 u6, g6_6 u6, g6_7 u6, ((if okM p1 ((s6_cy u6) 3) ∧ (0 ≤ p2 ∧ p2 < nI 65537) ∧ (0 ≤ p3 ∧ p3 ≤ nI 60) then (s6_t u6) else (s6_t4 u6)), (if okM p1 ((s6_cy u6) 3) ∧ (0 ≤ p2 ∧ p2 < nI 65537) ∧ (0 ≤ p3 ∧ p3 ≤ nI 60) then (s6_dd u6) + (fst_ (frP (s6_cy u6) (s6_Fs u6) (s6_Ft u6) (s6_ink u6) (s6_mn u6) (s6_t u6) (tn p2) p1) (tn p3 + 1) 0).getD (tn p3 + 1) else (s6_d4 u6)), (if okM p1 ((s6_cy u6) 3) ∧ (0 ≤ p2 ∧ p2 < nI 65537) ∧ (0 ≤ p3 ∧ p3 ≤ nI 60) then (rainIt ((s6_cy u6) 2) ((fst_ (frP (s6_cy u6) (s6_Fs u6) (s6_Ft u6) (s6_ink u6) (s6_mn u6) (s6_t u6) (tn p2) p1) (tn p3 + 1) 0).getD (tn p3 + 1)) ((s6_ink u6), tn p2)).1 else (s6_ink4 u6)), (if okM p1 ((s6_cy u6) 3) ∧ (0 ≤ p2 ∧ p2 < nI 65537) ∧ (0 ≤ p3 ∧ p3 ≤ nI 60) then (s6_mn u6) else (s6_mn4 u6)), (s6_o u6), (s6_ac u6), (s6_im u6), (s6_hw u6)), g6_9 u6, g6_10 u6) (((s8_q u8), 0, 1, (-1), (s8_rr u8), (s8_z u8), (s8_nb u8), (s8_wa u8)), g8_1 u8, g8_2 u8, g8_3 u8, g8_4 u8)) ((-1))), Ct.perm hp6.symm (Ct.frI (c_X6_freeBy l E x (s6_xa u6) (s6_g u6) (s6_tr u6) (s6_fl u6) (s6_pl u6) (s6_cy u6) (s6_ca u6) (s6_Fs u6) (s6_Ft u6) (s6_hi u6) (s6_hm u6) (s6_t u6) (s6_dd u6) (s6_ink u6) (s6_mn u6) (s6_ri u6) (s6_rm u6) (s6_t4 u6) (s6_d4 u6) (s6_ink4 u6) (s6_mn4 u6) p1 p2 p3 (by first | assumption | omega) (by first | assumption | omega) (by first | assumption | omega) (by first | assumption | omega) (by first | assumption | omega) (by first | assumption | omega)) [0, 20, 26, 27, 36, 37, 38, 39, 40, 41] rfl rfl rfl rfl), Ct.perm hp8.symm (Ct.frI (c_X8_freeBy_n l E k (s8_th u8) (s8_tr8 u8) (s8_wh u8) (s8_rr u8) (s8_q u8) (upN (upN (upN (upN (s8_z u8) 6 (s6_fd u6)) 12 (s6_fl u6)) 19 (s6_ac u6)) 20 (s6_im u6)) (s8_nb u8) (s8_wa u8) (s8_wd u8) (s8_ev u8) (s8_al u8) (s8_wl u8) p1 p2 p3 ) [0] rfl rfl rfl rfl), fun r w h => ⟨_, h.2⟩, ?_⟩
    rintro r w r' w' ⟨rfl, rfl⟩ ⟨rfl, rfl⟩
    exact ⟨congrArg (fun z => some (Value.int z)) (if_neg (okM_0 hy3)), Or.inl ⟨(((s6_g u6), (s6_xa u6), (s6_ra u6), (s6_caz u6), (s6_ca u6), (s6_pq u6), (s6_fl u6), (if okM p1 ((s6_cy u6) 3) then (if (0 ≤ p2 ∧ p2 < nI 65537) ∧ (0 ≤ p3 ∧ p3 ≤ nI 60) then 0 else 2) else 1)), g6_1 u6, g6_2 u6, g6_3 u6, g6_4 u6, g6_5 u6, g6_6 u6, g6_7 u6, ((if okM p1 ((s6_cy u6) 3) ∧ (0 ≤ p2 ∧ p2 < nI 65537) ∧ (0 ≤ p3 ∧ p3 ≤ nI 60) then (s6_t u6) else (s6_t4 u6)), (if okM p1 ((s6_cy u6) 3) ∧ (0 ≤ p2 ∧ p2 < nI 65537) ∧ (0 ≤ p3 ∧ p3 ≤ nI 60) then (s6_dd u6) + (fst_ (frP (s6_cy u6) (s6_Fs u6) (s6_Ft u6) (s6_ink u6) (s6_mn u6) (s6_t u6) (tn p2) p1) (tn p3 + 1) 0).getD (tn p3 + 1) else (s6_d4 u6)), (if okM p1 ((s6_cy u6) 3) ∧ (0 ≤ p2 ∧ p2 < nI 65537) ∧ (0 ≤ p3 ∧ p3 ≤ nI 60) then (rainIt ((s6_cy u6) 2) ((fst_ (frP (s6_cy u6) (s6_Fs u6) (s6_Ft u6) (s6_ink u6) (s6_mn u6) (s6_t u6) (tn p2) p1) (tn p3 + 1) 0).getD (tn p3 + 1)) ((s6_ink u6), tn p2)).1 else (s6_ink4 u6)), (if okM p1 ((s6_cy u6) 3) ∧ (0 ≤ p2 ∧ p2 < nI 65537) ∧ (0 ≤ p3 ∧ p3 ≤ nI 60) then (s6_mn u6) else (s6_mn4 u6)), (s6_o u6), (s6_ac u6), (s6_im u6), (s6_hw u6)), g6_9 u6, g6_10 u6), (((s8_q u8), 0, 1, (-1), (s8_rr u8), (s8_z u8), (s8_nb u8), (s8_wa u8)), g8_1 u8, g8_2 u8, g8_3 u8, g8_4 u8), List.Perm.refl _, List.Perm.refl _, hF, hN, tw_of 1 ((if_neg (okM_0 hy3)).symm) (by decide) (by decide)⟩⟩
  · obtain ⟨u6, u8, hp6, hp8, hF, hG, hP, hW⟩ := hv
    have hfd := hF.1
    have hby := hF.2.1
    have hkw := hF.2.2.1
    have h40z := hF.2.2.2.1
    have h40 := hF.2.2.2.2.1
    have hink2 := hF.2.2.2.2.2.1
    have hwt := hF.2.2.2.2.2.2.1
    have hdy := hF.2.2.2.2.2.2.2.1
    have hds := hF.2.2.2.2.2.2.2.2.1
    have hink := hF.2.2.2.2.2.2.2.2.2.1
    have ht := hF.2.2.2.2.2.2.2.2.2.2.1
    have ho := hF.2.2.2.2.2.2.2.2.2.2.2.1
    have hac := hF.2.2.2.2.2.2.2.2.2.2.2.2.1
    have him := hF.2.2.2.2.2.2.2.2.2.2.2.2.2.1
    have hc0 := hF.2.2.2.2.2.2.2.2.2.2.2.2.2.2.1
    have hc1 := hF.2.2.2.2.2.2.2.2.2.2.2.2.2.2.2.1
    have hc2 := hF.2.2.2.2.2.2.2.2.2.2.2.2.2.2.2.2.1
    have hc3 := hF.2.2.2.2.2.2.2.2.2.2.2.2.2.2.2.2.2.1
    have hc4 := hF.2.2.2.2.2.2.2.2.2.2.2.2.2.2.2.2.2.2.1
    have hc5 := hF.2.2.2.2.2.2.2.2.2.2.2.2.2.2.2.2.2.2.2.1
    have hc6 := hF.2.2.2.2.2.2.2.2.2.2.2.2.2.2.2.2.2.2.2.2.1
    have hc7 := hF.2.2.2.2.2.2.2.2.2.2.2.2.2.2.2.2.2.2.2.2.2
    have htr := hW.1
    have htl := hW.2.1
    have hgb := g8_b hc4 hc5 hc7 hG
    have hfo := hgb.1
    have hon := hgb.2.1
    have htw := hgb.2.2.1
    have hFs := hgb.2.2.2.1
    have hFt := hgb.2.2.2.2.1
    have hik := hgb.2.2.2.2.2.1
    have hun := hgb.2.2.2.2.2.2.1
    have hdi := hgb.2.2.2.2.2.2.2.1
    have hd2 := hgb.2.2.2.2.2.2.2.2.1
    have hd3 := hgb.2.2.2.2.2.2.2.2.2.1
    have hkp := hgb.2.2.2.2.2.2.2.2.2.2.1
    have hm1 := hgb.2.2.2.2.2.2.2.2.2.2.2.1
    have hal_ := hgb.2.2.2.2.2.2.2.2.2.2.2.2
    have hal := hal_ (s6_t u6)
    have hz : ∀ c, (s6_cy u6) 5 ≤ c → (s6_ink u6) c = 0 := hP.1.2.1
    have hmz : ∀ c, (s6_cy u6) 5 ≤ c → (s6_mn u6) c = -1 := hP.1.2.2.1
    have hdd9 : (s6_dd u6) ≤ 999 := hP.1.2.2.2.2
    have hw8 := w8_e hG
    have h30 : ¬ (s6_cy u6) 3 = 0 := by omega
    by_cases hok : okM p1 ((s6_cy u6) 3)
    · by_cases hs0 : (0 ≤ p2 ∧ p2 < nI 65537) ∧ (0 ≤ p3 ∧ p3 ≤ nI 60)
      · obtain ⟨e0, he0, rfl⟩ := okM_nat hs0.1 (by decide)
        have hs1 := hs0
        obtain ⟨d0, hd0, rfl⟩ := rg_nat (by decide) hs0.2
        have hd31 : d0 < 2 ^ 31 := by omega
        have he31 : e0 < 2 ^ 31 := by omega
        refine ⟨(wrI (W6 E x (((s6_g u6), (s6_xa u6), (s6_ra u6), (s6_caz u6), (s6_ca u6), (s6_pq u6), (s6_fl u6), (if okM p1 ((s6_cy u6) 3) then (if (0 ≤ (nI e0) ∧ (nI e0) < nI 65537) ∧ (0 ≤ (nI d0) ∧ (nI d0) ≤ nI 60) then 0 else 2) else 1)), g6_1 u6, g6_2 u6, g6_3 u6, g6_4 u6, g6_5 u6, g6_6 u6, g6_7 u6, ((if okM p1 ((s6_cy u6) 3) ∧ (0 ≤ (nI e0) ∧ (nI e0) < nI 65537) ∧ (0 ≤ (nI d0) ∧ (nI d0) ≤ nI 60) then (s6_t u6) else (s6_t4 u6)), (if okM p1 ((s6_cy u6) 3) ∧ (0 ≤ (nI e0) ∧ (nI e0) < nI 65537) ∧ (0 ≤ (nI d0) ∧ (nI d0) ≤ nI 60) then (s6_dd u6) + (fst_ (frP (s6_cy u6) (s6_Fs u6) (s6_Ft u6) (s6_ink u6) (s6_mn u6) (s6_t u6) (tn (nI e0)) p1) (tn (nI d0) + 1) 0).getD (tn (nI d0) + 1) else (s6_d4 u6)), (if okM p1 ((s6_cy u6) 3) ∧ (0 ≤ (nI e0) ∧ (nI e0) < nI 65537) ∧ (0 ≤ (nI d0) ∧ (nI d0) ≤ nI 60) then (rainIt ((s6_cy u6) 2) ((fst_ (frP (s6_cy u6) (s6_Fs u6) (s6_Ft u6) (s6_ink u6) (s6_mn u6) (s6_t u6) (tn (nI e0)) p1) (tn (nI d0) + 1) 0).getD (tn (nI d0) + 1)) ((s6_ink u6), tn (nI e0))).1 else (s6_ink4 u6)), (if okM p1 ((s6_cy u6) 3) ∧ (0 ≤ (nI e0) ∧ (nI e0) < nI 65537) ∧ (0 ≤ (nI d0) ∧ (nI d0) ≤ nI 60) then (s6_mn u6) else (s6_mn4 u6)), (s6_o u6), (s6_ac u6), (s6_im u6), (s6_hw u6)), g6_9 u6, g6_10 u6)) (if okM p1 ((s6_cy u6) 3) then (if (0 ≤ (nI e0) ∧ (nI e0) < nI 65537) ∧ (0 ≤ (nI d0) ∧ (nI d0) ≤ nI 60) then optI (fst_ (frP (s6_cy u6) (s6_Fs u6) (s6_Ft u6) (s6_ink u6) (s6_mn u6) (s6_t u6) (tn (nI e0)) p1) (tn (nI d0) + 1) 0) else (-1)) else (-1))), (wrI (W8c E k (((s6_g u6), (s6_xa u6), (s6_ra u6), (s6_caz u6), (s6_ca u6), (s6_pq u6), (s6_fl u6), (if okM p1 ((s6_cy u6) 3) then (if (0 ≤ (nI e0) ∧ (nI e0) < nI 65537) ∧ (0 ≤ (nI d0) ∧ (nI d0) ≤ nI 60) then 0 else 2) else 1)), g6_1 u6, g6_2 u6, g6_3 u6, g6_4 u6, g6_5 u6, g6_6 u6, g6_7 u6, ((if okM p1 ((s6_cy u6) 3) ∧ (0 ≤ (nI e0) ∧ (nI e0) < nI 65537) ∧ (0 ≤ (nI d0) ∧ (nI d0) ≤ nI 60) then (s6_t u6) else (s6_t4 u6)), (if okM p1 ((s6_cy u6) 3) ∧ (0 ≤ (nI e0) ∧ (nI e0) < nI 65537) ∧ (0 ≤ (nI d0) ∧ (nI d0) ≤ nI 60) then (s6_dd u6) + (fst_ (frP (s6_cy u6) (s6_Fs u6) (s6_Ft u6) (s6_ink u6) (s6_mn u6) (s6_t u6) (tn (nI e0)) p1) (tn (nI d0) + 1) 0).getD (tn (nI d0) + 1) else (s6_d4 u6)), (if okM p1 ((s6_cy u6) 3) ∧ (0 ≤ (nI e0) ∧ (nI e0) < nI 65537) ∧ (0 ≤ (nI d0) ∧ (nI d0) ≤ nI 60) then (rainIt ((s6_cy u6) 2) ((fst_ (frP (s6_cy u6) (s6_Fs u6) (s6_Ft u6) (s6_ink u6) (s6_mn u6) (s6_t u6) (tn (nI e0)) p1) (tn (nI d0) + 1) 0).getD (tn (nI d0) + 1)) ((s6_ink u6), tn (nI e0))).1 else (s6_ink4 u6)), (if okM p1 ((s6_cy u6) 3) ∧ (0 ≤ (nI e0) ∧ (nI e0) < nI 65537) ∧ (0 ≤ (nI d0) ∧ (nI d0) ≤ nI 60) then (s6_mn u6) else (s6_mn4 u6)), (s6_o u6), (s6_ac u6), (s6_im u6), (s6_hw u6)), g6_9 u6, g6_10 u6) (((s8_q u8), 0, 0, (-1), (s8_rr u8), (upN (s8_z u8) 29 ((rainIt ((s6_cy u6) 2) ((fst_ (frP (s6_cy u6) (s6_Fs u6) (s6_Ft u6) (s6_ink u6) (s6_mn u6) (s6_t u6) e0 p1) (d0 + 1) 0).getD (d0 + 1)) ((s6_ink u6), e0)).2)), (s8_nb u8), (s8_wa u8)), ((s8_wd u8), (allS ((s6_cy u6) 4)), (s8_al u8), (s8_wl u8), (xF (s6_mn u6) (rainIt ((s6_cy u6) 2) ((fst_ (frP (s6_cy u6) (s6_Fs u6) (s6_Ft u6) (s6_ink u6) (s6_mn u6) (s6_t u6) e0 p1) (d0 + 1) 0).getD (d0 + 1)) ((s6_ink u6), e0)).1 (s6_t u6) ((s6_dd u6) + (fst_ (frP (s6_cy u6) (s6_Fs u6) (s6_Ft u6) (s6_ink u6) (s6_mn u6) (s6_t u6) e0 p1) (d0 + 1) 0).getD (d0 + 1))), (s8_pp u8), (s8_pj8 u8), (lyF (s6_Fs u6) (s6_Ft u6) (s6_t u6) ((s6_cy u6) 4) (s8_ke u8) ((s6_cy u6) 5))), g8_2 u8, g8_3 u8, g8_4 u8)) (optI (fst_ (frP (s6_cy u6) (s6_Fs u6) (s6_Ft u6) (s6_ink u6) (s6_mn u6) (s6_t u6) e0 p1) (d0 + 1) 0))), Ct.perm hp6.symm (Ct.frI (c_X6_freeBy l E x (s6_xa u6) (s6_g u6) (s6_tr u6) (s6_fl u6) (s6_pl u6) (s6_cy u6) (s6_ca u6) (s6_Fs u6) (s6_Ft u6) (s6_hi u6) (s6_hm u6) (s6_t u6) (s6_dd u6) (s6_ink u6) (s6_mn u6) (s6_ri u6) (s6_rm u6) (s6_t4 u6) (s6_d4 u6) (s6_ink4 u6) (s6_mn4 u6) p1 (nI e0) (nI d0) (by first | assumption | omega) (by first | assumption | omega) (by first | assumption | omega) (by first | assumption | omega) (by first | assumption | omega) (by first | assumption | omega)) [0, 20, 26, 27, 36, 37, 38, 39, 40, 41] rfl rfl rfl rfl), Ct.perm hp8.symm (Ct.frI (c_X8_freeBy l E k (s8_th u8) (s8_tr8 u8) (s8_wh u8) (s8_g8 u8) (s8_rr u8) (s8_q u8) (upN (upN (upN (upN (s8_z u8) 6 (s6_fd u6)) 12 (s6_fl u6)) 19 (s6_ac u6)) 20 (s6_im u6)) (s8_nb u8) (s8_wa u8) (s8_wd u8) (s8_ev u8) (s8_al u8) (s8_wl u8) (s6_cy u6) (s8_kp u8) (s8_nc u8) (s8_cb u8) (s8_gf u8) (s8_go_ u8) (s8_gt_ u8) (s8_xf u8) (s6_mn u6) (s6_ink u6) (s6_t u6) (s6_dd u6) (s6_Fs u6) (s6_Ft u6) (s8_ke u8) ((s8_z u8) 29) p1 e0 d0 (by first | assumption | omega) (by first | assumption | omega) (by first | assumption | omega) (by first | assumption | omega) (by first | assumption | omega) (by first | assumption | omega) (by first | assumption | omega) (by first | assumption | omega) (by first | assumption | omega) (by first | assumption | omega) (by first | assumption | omega) (he0) (hd0)) [0, 10, 13, 14, 15, 2, 3, 6] rfl rfl rfl rfl), fun r w h => ⟨_, h.2⟩, ?_⟩
        rintro r w r' w' ⟨rfl, rfl⟩ ⟨rfl, rfl⟩
        exact ⟨congrArg (fun z => some (Value.int z)) ((if_pos hok).trans ((if_pos hs1).trans (by rw [tn_n hd31, tn_n he31]))), Or.inr ⟨(((s6_g u6), (s6_xa u6), (s6_ra u6), (s6_caz u6), (s6_ca u6), (s6_pq u6), (s6_fl u6), (if okM p1 ((s6_cy u6) 3) then (if (0 ≤ (nI e0) ∧ (nI e0) < nI 65537) ∧ (0 ≤ (nI d0) ∧ (nI d0) ≤ nI 60) then 0 else 2) else 1)), g6_1 u6, g6_2 u6, g6_3 u6, g6_4 u6, g6_5 u6, g6_6 u6, g6_7 u6, ((if okM p1 ((s6_cy u6) 3) ∧ (0 ≤ (nI e0) ∧ (nI e0) < nI 65537) ∧ (0 ≤ (nI d0) ∧ (nI d0) ≤ nI 60) then (s6_t u6) else (s6_t4 u6)), (if okM p1 ((s6_cy u6) 3) ∧ (0 ≤ (nI e0) ∧ (nI e0) < nI 65537) ∧ (0 ≤ (nI d0) ∧ (nI d0) ≤ nI 60) then (s6_dd u6) + (fst_ (frP (s6_cy u6) (s6_Fs u6) (s6_Ft u6) (s6_ink u6) (s6_mn u6) (s6_t u6) (tn (nI e0)) p1) (tn (nI d0) + 1) 0).getD (tn (nI d0) + 1) else (s6_d4 u6)), (if okM p1 ((s6_cy u6) 3) ∧ (0 ≤ (nI e0) ∧ (nI e0) < nI 65537) ∧ (0 ≤ (nI d0) ∧ (nI d0) ≤ nI 60) then (rainIt ((s6_cy u6) 2) ((fst_ (frP (s6_cy u6) (s6_Fs u6) (s6_Ft u6) (s6_ink u6) (s6_mn u6) (s6_t u6) (tn (nI e0)) p1) (tn (nI d0) + 1) 0).getD (tn (nI d0) + 1)) ((s6_ink u6), tn (nI e0))).1 else (s6_ink4 u6)), (if okM p1 ((s6_cy u6) 3) ∧ (0 ≤ (nI e0) ∧ (nI e0) < nI 65537) ∧ (0 ≤ (nI d0) ∧ (nI d0) ≤ nI 60) then (s6_mn u6) else (s6_mn4 u6)), (s6_o u6), (s6_ac u6), (s6_im u6), (s6_hw u6)), g6_9 u6, g6_10 u6), (((s8_q u8), 0, 0, (-1), (s8_rr u8), (upN (s8_z u8) 29 ((rainIt ((s6_cy u6) 2) ((fst_ (frP (s6_cy u6) (s6_Fs u6) (s6_Ft u6) (s6_ink u6) (s6_mn u6) (s6_t u6) e0 p1) (d0 + 1) 0).getD (d0 + 1)) ((s6_ink u6), e0)).2)), (s8_nb u8), (s8_wa u8)), ((s8_wd u8), (allS ((s6_cy u6) 4)), (s8_al u8), (s8_wl u8), (xF (s6_mn u6) (rainIt ((s6_cy u6) 2) ((fst_ (frP (s6_cy u6) (s6_Fs u6) (s6_Ft u6) (s6_ink u6) (s6_mn u6) (s6_t u6) e0 p1) (d0 + 1) 0).getD (d0 + 1)) ((s6_ink u6), e0)).1 (s6_t u6) ((s6_dd u6) + (fst_ (frP (s6_cy u6) (s6_Fs u6) (s6_Ft u6) (s6_ink u6) (s6_mn u6) (s6_t u6) e0 p1) (d0 + 1) 0).getD (d0 + 1))), (s8_pp u8), (s8_pj8 u8), (lyF (s6_Fs u6) (s6_Ft u6) (s6_t u6) ((s6_cy u6) 4) (s8_ke u8) ((s6_cy u6) 5))), g8_2 u8, g8_3 u8, g8_4 u8), List.Perm.refl _, List.Perm.refl _, hF, hG, hP, tw_of 0 (((if_pos hok).trans (if_pos hs1)).symm) (by decide) (by decide)⟩⟩
      · refine ⟨(wrI (W6 E x (((s6_g u6), (s6_xa u6), (s6_ra u6), (s6_caz u6), (s6_ca u6), (s6_pq u6), (s6_fl u6), (if okM p1 ((s6_cy u6) 3) then (if (0 ≤ p2 ∧ p2 < nI 65537) ∧ (0 ≤ p3 ∧ p3 ≤ nI 60) then 0 else 2) else 1)), g6_1 u6, g6_2 u6, g6_3 u6, g6_4 u6, g6_5 u6, g6_6 u6, g6_7 u6, ((if okM p1 ((s6_cy u6) 3) ∧ (0 ≤ p2 ∧ p2 < nI 65537) ∧ (0 ≤ p3 ∧ p3 ≤ nI 60) then (s6_t u6) else (s6_t4 u6)), (if okM p1 ((s6_cy u6) 3) ∧ (0 ≤ p2 ∧ p2 < nI 65537) ∧ (0 ≤ p3 ∧ p3 ≤ nI 60) then (s6_dd u6) + (fst_ (frP (s6_cy u6) (s6_Fs u6) (s6_Ft u6) (s6_ink u6) (s6_mn u6) (s6_t u6) (tn p2) p1) (tn p3 + 1) 0).getD (tn p3 + 1) else (s6_d4 u6)), (if okM p1 ((s6_cy u6) 3) ∧ (0 ≤ p2 ∧ p2 < nI 65537) ∧ (0 ≤ p3 ∧ p3 ≤ nI 60) then (rainIt ((s6_cy u6) 2) ((fst_ (frP (s6_cy u6) (s6_Fs u6) (s6_Ft u6) (s6_ink u6) (s6_mn u6) (s6_t u6) (tn p2) p1) (tn p3 + 1) 0).getD (tn p3 + 1)) ((s6_ink u6), tn p2)).1 else (s6_ink4 u6)), (if okM p1 ((s6_cy u6) 3) ∧ (0 ≤ p2 ∧ p2 < nI 65537) ∧ (0 ≤ p3 ∧ p3 ≤ nI 60) then (s6_mn u6) else (s6_mn4 u6)), (s6_o u6), (s6_ac u6), (s6_im u6), (s6_hw u6)), g6_9 u6, g6_10 u6)) (if okM p1 ((s6_cy u6) 3) then (if (0 ≤ p2 ∧ p2 < nI 65537) ∧ (0 ≤ p3 ∧ p3 ≤ nI 60) then optI (fst_ (frP (s6_cy u6) (s6_Fs u6) (s6_Ft u6) (s6_ink u6) (s6_mn u6) (s6_t u6) (tn p2) p1) (tn p3 + 1) 0) else (-1)) else (-1))), (wrI (W8c E k (((s6_g u6), (s6_xa u6), (s6_ra u6), (s6_caz u6), (s6_ca u6), (s6_pq u6), (s6_fl u6), (if okM p1 ((s6_cy u6) 3) then (if (0 ≤ p2 ∧ p2 < nI 65537) ∧ (0 ≤ p3 ∧ p3 ≤ nI 60) then 0 else 2) else 1)), g6_1 u6, g6_2 u6, g6_3 u6, g6_4 u6, g6_5 u6, g6_6 u6, g6_7 u6, ((if okM p1 ((s6_cy u6) 3) ∧ (0 ≤ p2 ∧ p2 < nI 65537) ∧ (0 ≤ p3 ∧ p3 ≤ nI 60) then (s6_t u6) else (s6_t4 u6)), (if okM p1 ((s6_cy u6) 3) ∧ (0 ≤ p2 ∧ p2 < nI 65537) ∧ (0 ≤ p3 ∧ p3 ≤ nI 60) then (s6_dd u6) + (fst_ (frP (s6_cy u6) (s6_Fs u6) (s6_Ft u6) (s6_ink u6) (s6_mn u6) (s6_t u6) (tn p2) p1) (tn p3 + 1) 0).getD (tn p3 + 1) else (s6_d4 u6)), (if okM p1 ((s6_cy u6) 3) ∧ (0 ≤ p2 ∧ p2 < nI 65537) ∧ (0 ≤ p3 ∧ p3 ≤ nI 60) then (rainIt ((s6_cy u6) 2) ((fst_ (frP (s6_cy u6) (s6_Fs u6) (s6_Ft u6) (s6_ink u6) (s6_mn u6) (s6_t u6) (tn p2) p1) (tn p3 + 1) 0).getD (tn p3 + 1)) ((s6_ink u6), tn p2)).1 else (s6_ink4 u6)), (if okM p1 ((s6_cy u6) 3) ∧ (0 ≤ p2 ∧ p2 < nI 65537) ∧ (0 ≤ p3 ∧ p3 ≤ nI 60) then (s6_mn u6) else (s6_mn4 u6)), (s6_o u6), (s6_ac u6), (s6_im u6), (s6_hw u6)), g6_9 u6, g6_10 u6) (((s8_q u8), 0, 2, (-1), (s8_rr u8), (s8_z u8), (s8_nb u8), (s8_wa u8)), g8_1 u8, g8_2 u8, g8_3 u8, g8_4 u8)) ((-1))), Ct.perm hp6.symm (Ct.frI (c_X6_freeBy l E x (s6_xa u6) (s6_g u6) (s6_tr u6) (s6_fl u6) (s6_pl u6) (s6_cy u6) (s6_ca u6) (s6_Fs u6) (s6_Ft u6) (s6_hi u6) (s6_hm u6) (s6_t u6) (s6_dd u6) (s6_ink u6) (s6_mn u6) (s6_ri u6) (s6_rm u6) (s6_t4 u6) (s6_d4 u6) (s6_ink4 u6) (s6_mn4 u6) p1 p2 p3 (by first | assumption | omega) (by first | assumption | omega) (by first | assumption | omega) (by first | assumption | omega) (by first | assumption | omega) (by first | assumption | omega)) [0, 20, 26, 27, 36, 37, 38, 39, 40, 41] rfl rfl rfl rfl), Ct.perm hp8.symm (Ct.frI (c_X8_freeBy_no2 l E k (s8_th u8) (s8_tr8 u8) (s8_wh u8) (s8_g8 u8) (s8_rr u8) (s8_q u8) (upN (upN (upN (upN (s8_z u8) 6 (s6_fd u6)) 12 (s6_fl u6)) 19 (s6_ac u6)) 20 (s6_im u6)) (s8_nb u8) (s8_wa u8) (s8_wd u8) (s8_ev u8) (s8_al u8) (s8_wl u8) (s6_cy u6) (s8_kp u8) (s8_nc u8) (s8_cb u8) p1 p2 p3 (by first | assumption | omega) (fun z => hs0 ⟨sd_e.mp z.1, z.2⟩)) [0, 10] rfl rfl rfl rfl), fun r w h => ⟨_, h.2⟩, ?_⟩
        rintro r w r' w' ⟨rfl, rfl⟩ ⟨rfl, rfl⟩
        exact ⟨congrArg (fun z => some (Value.int z)) ((if_pos hok).trans (if_neg hs0)), Or.inr ⟨(((s6_g u6), (s6_xa u6), (s6_ra u6), (s6_caz u6), (s6_ca u6), (s6_pq u6), (s6_fl u6), (if okM p1 ((s6_cy u6) 3) then (if (0 ≤ p2 ∧ p2 < nI 65537) ∧ (0 ≤ p3 ∧ p3 ≤ nI 60) then 0 else 2) else 1)), g6_1 u6, g6_2 u6, g6_3 u6, g6_4 u6, g6_5 u6, g6_6 u6, g6_7 u6, ((if okM p1 ((s6_cy u6) 3) ∧ (0 ≤ p2 ∧ p2 < nI 65537) ∧ (0 ≤ p3 ∧ p3 ≤ nI 60) then (s6_t u6) else (s6_t4 u6)), (if okM p1 ((s6_cy u6) 3) ∧ (0 ≤ p2 ∧ p2 < nI 65537) ∧ (0 ≤ p3 ∧ p3 ≤ nI 60) then (s6_dd u6) + (fst_ (frP (s6_cy u6) (s6_Fs u6) (s6_Ft u6) (s6_ink u6) (s6_mn u6) (s6_t u6) (tn p2) p1) (tn p3 + 1) 0).getD (tn p3 + 1) else (s6_d4 u6)), (if okM p1 ((s6_cy u6) 3) ∧ (0 ≤ p2 ∧ p2 < nI 65537) ∧ (0 ≤ p3 ∧ p3 ≤ nI 60) then (rainIt ((s6_cy u6) 2) ((fst_ (frP (s6_cy u6) (s6_Fs u6) (s6_Ft u6) (s6_ink u6) (s6_mn u6) (s6_t u6) (tn p2) p1) (tn p3 + 1) 0).getD (tn p3 + 1)) ((s6_ink u6), tn p2)).1 else (s6_ink4 u6)), (if okM p1 ((s6_cy u6) 3) ∧ (0 ≤ p2 ∧ p2 < nI 65537) ∧ (0 ≤ p3 ∧ p3 ≤ nI 60) then (s6_mn u6) else (s6_mn4 u6)), (s6_o u6), (s6_ac u6), (s6_im u6), (s6_hw u6)), g6_9 u6, g6_10 u6), (((s8_q u8), 0, 2, (-1), (s8_rr u8), (s8_z u8), (s8_nb u8), (s8_wa u8)), g8_1 u8, g8_2 u8, g8_3 u8, g8_4 u8), List.Perm.refl _, List.Perm.refl _, hF, hG, hP, tw_of 2 (((if_pos hok).trans (if_neg hs0)).symm) (by decide) (by decide)⟩⟩
    · refine ⟨(wrI (W6 E x (((s6_g u6), (s6_xa u6), (s6_ra u6), (s6_caz u6), (s6_ca u6), (s6_pq u6), (s6_fl u6), (if okM p1 ((s6_cy u6) 3) then (if (0 ≤ p2 ∧ p2 < nI 65537) ∧ (0 ≤ p3 ∧ p3 ≤ nI 60) then 0 else 2) else 1)), g6_1 u6, g6_2 u6, g6_3 u6, g6_4 u6, g6_5 u6, g6_6 u6, g6_7 u6, ((if okM p1 ((s6_cy u6) 3) ∧ (0 ≤ p2 ∧ p2 < nI 65537) ∧ (0 ≤ p3 ∧ p3 ≤ nI 60) then (s6_t u6) else (s6_t4 u6)), (if okM p1 ((s6_cy u6) 3) ∧ (0 ≤ p2 ∧ p2 < nI 65537) ∧ (0 ≤ p3 ∧ p3 ≤ nI 60) then (s6_dd u6) + (fst_ (frP (s6_cy u6) (s6_Fs u6) (s6_Ft u6) (s6_ink u6) (s6_mn u6) (s6_t u6) (tn p2) p1) (tn p3 + 1) 0).getD (tn p3 + 1) else (s6_d4 u6)), (if okM p1 ((s6_cy u6) 3) ∧ (0 ≤ p2 ∧ p2 < nI 65537) ∧ (0 ≤ p3 ∧ p3 ≤ nI 60) then (rainIt ((s6_cy u6) 2) ((fst_ (frP (s6_cy u6) (s6_Fs u6) (s6_Ft u6) (s6_ink u6) (s6_mn u6) (s6_t u6) (tn p2) p1) (tn p3 + 1) 0).getD (tn p3 + 1)) ((s6_ink u6), tn p2)).1 else (s6_ink4 u6)), (if okM p1 ((s6_cy u6) 3) ∧ (0 ≤ p2 ∧ p2 < nI 65537) ∧ (0 ≤ p3 ∧ p3 ≤ nI 60) then (s6_mn u6) else (s6_mn4 u6)), (s6_o u6), (s6_ac u6), (s6_im u6), (s6_hw u6)), g6_9 u6, g6_10 u6)) (if okM p1 ((s6_cy u6) 3) then (if (0 ≤ p2 ∧ p2 < nI 65537) ∧ (0 ≤ p3 ∧ p3 ≤ nI 60) then optI (fst_ (frP (s6_cy u6) (s6_Fs u6) (s6_Ft u6) (s6_ink u6) (s6_mn u6) (s6_t u6) (tn p2) p1) (tn p3 + 1) 0) else (-1)) else (-1))), (wrI (W8c E k (((s6_g u6), (s6_xa u6), (s6_ra u6), (s6_caz u6), (s6_ca u6), (s6_pq u6), (s6_fl u6), (if okM p1 ((s6_cy u6) 3) then (if (0 ≤ p2 ∧ p2 < nI 65537) ∧ (0 ≤ p3 ∧ p3 ≤ nI 60) then 0 else 2) else 1)), g6_1 u6, g6_2 u6, g6_3 u6, g6_4 u6, g6_5 u6, g6_6 u6, g6_7 u6, ((if okM p1 ((s6_cy u6) 3) ∧ (0 ≤ p2 ∧ p2 < nI 65537) ∧ (0 ≤ p3 ∧ p3 ≤ nI 60) then (s6_t u6) else (s6_t4 u6)), (if okM p1 ((s6_cy u6) 3) ∧ (0 ≤ p2 ∧ p2 < nI 65537) ∧ (0 ≤ p3 ∧ p3 ≤ nI 60) then (s6_dd u6) + (fst_ (frP (s6_cy u6) (s6_Fs u6) (s6_Ft u6) (s6_ink u6) (s6_mn u6) (s6_t u6) (tn p2) p1) (tn p3 + 1) 0).getD (tn p3 + 1) else (s6_d4 u6)), (if okM p1 ((s6_cy u6) 3) ∧ (0 ≤ p2 ∧ p2 < nI 65537) ∧ (0 ≤ p3 ∧ p3 ≤ nI 60) then (rainIt ((s6_cy u6) 2) ((fst_ (frP (s6_cy u6) (s6_Fs u6) (s6_Ft u6) (s6_ink u6) (s6_mn u6) (s6_t u6) (tn p2) p1) (tn p3 + 1) 0).getD (tn p3 + 1)) ((s6_ink u6), tn p2)).1 else (s6_ink4 u6)), (if okM p1 ((s6_cy u6) 3) ∧ (0 ≤ p2 ∧ p2 < nI 65537) ∧ (0 ≤ p3 ∧ p3 ≤ nI 60) then (s6_mn u6) else (s6_mn4 u6)), (s6_o u6), (s6_ac u6), (s6_im u6), (s6_hw u6)), g6_9 u6, g6_10 u6) (((s8_q u8), 0, 1, (-1), (s8_rr u8), (s8_z u8), (s8_nb u8), (s8_wa u8)), g8_1 u8, g8_2 u8, g8_3 u8, g8_4 u8)) ((-1))), Ct.perm hp6.symm (Ct.frI (c_X6_freeBy l E x (s6_xa u6) (s6_g u6) (s6_tr u6) (s6_fl u6) (s6_pl u6) (s6_cy u6) (s6_ca u6) (s6_Fs u6) (s6_Ft u6) (s6_hi u6) (s6_hm u6) (s6_t u6) (s6_dd u6) (s6_ink u6) (s6_mn u6) (s6_ri u6) (s6_rm u6) (s6_t4 u6) (s6_d4 u6) (s6_ink4 u6) (s6_mn4 u6) p1 p2 p3 (by first | assumption | omega) (by first | assumption | omega) (by first | assumption | omega) (by first | assumption | omega) (by first | assumption | omega) (by first | assumption | omega)) [0, 20, 26, 27, 36, 37, 38, 39, 40, 41] rfl rfl rfl rfl), Ct.perm hp8.symm (Ct.frI (c_X8_freeBy_no1 l E k (s8_th u8) (s8_tr8 u8) (s8_wh u8) (s8_g8 u8) (s8_rr u8) (s8_q u8) (upN (upN (upN (upN (s8_z u8) 6 (s6_fd u6)) 12 (s6_fl u6)) 19 (s6_ac u6)) 20 (s6_im u6)) (s8_nb u8) (s8_wa u8) (s8_wd u8) (s8_ev u8) (s8_al u8) (s8_wl u8) (s6_cy u6) (s8_kp u8) (s8_nc u8) (s8_cb u8) p1 p2 p3 (by first | assumption | omega)) [0, 10] rfl rfl rfl rfl), fun r w h => ⟨_, h.2⟩, ?_⟩
      rintro r w r' w' ⟨rfl, rfl⟩ ⟨rfl, rfl⟩
      exact ⟨congrArg (fun z => some (Value.int z)) (if_neg hok), Or.inr ⟨(((s6_g u6), (s6_xa u6), (s6_ra u6), (s6_caz u6), (s6_ca u6), (s6_pq u6), (s6_fl u6), (if okM p1 ((s6_cy u6) 3) then (if (0 ≤ p2 ∧ p2 < nI 65537) ∧ (0 ≤ p3 ∧ p3 ≤ nI 60) then 0 else 2) else 1)), g6_1 u6, g6_2 u6, g6_3 u6, g6_4 u6, g6_5 u6, g6_6 u6, g6_7 u6, ((if okM p1 ((s6_cy u6) 3) ∧ (0 ≤ p2 ∧ p2 < nI 65537) ∧ (0 ≤ p3 ∧ p3 ≤ nI 60) then (s6_t u6) else (s6_t4 u6)), (if okM p1 ((s6_cy u6) 3) ∧ (0 ≤ p2 ∧ p2 < nI 65537) ∧ (0 ≤ p3 ∧ p3 ≤ nI 60) then (s6_dd u6) + (fst_ (frP (s6_cy u6) (s6_Fs u6) (s6_Ft u6) (s6_ink u6) (s6_mn u6) (s6_t u6) (tn p2) p1) (tn p3 + 1) 0).getD (tn p3 + 1) else (s6_d4 u6)), (if okM p1 ((s6_cy u6) 3) ∧ (0 ≤ p2 ∧ p2 < nI 65537) ∧ (0 ≤ p3 ∧ p3 ≤ nI 60) then (rainIt ((s6_cy u6) 2) ((fst_ (frP (s6_cy u6) (s6_Fs u6) (s6_Ft u6) (s6_ink u6) (s6_mn u6) (s6_t u6) (tn p2) p1) (tn p3 + 1) 0).getD (tn p3 + 1)) ((s6_ink u6), tn p2)).1 else (s6_ink4 u6)), (if okM p1 ((s6_cy u6) 3) ∧ (0 ≤ p2 ∧ p2 < nI 65537) ∧ (0 ≤ p3 ∧ p3 ≤ nI 60) then (s6_mn u6) else (s6_mn4 u6)), (s6_o u6), (s6_ac u6), (s6_im u6), (s6_hw u6)), g6_9 u6, g6_10 u6), (((s8_q u8), 0, 1, (-1), (s8_rr u8), (s8_z u8), (s8_nb u8), (s8_wa u8)), g8_1 u8, g8_2 u8, g8_3 u8, g8_4 u8), List.Perm.refl _, List.Perm.refl _, hF, hG, hP, tw_of 1 ((if_neg hok).symm) (by decide) (by decide)⟩⟩
set_option maxRecDepth 100000 in
set_option maxHeartbeats 4000000 in
theorem op_spread (l : Launch) (E : Et) (x k : Nat)  : OpI E x k (fun w P => Ct l E yX6_spread cX6_spread 1 (some .int) 15 0 0 [.ref x] w P) (fun w P => Ct l E yX8_spread cX8_spread 1 (some .int) 5 0 0 [.ref k] w P) := by
  intro w6 w8 hv
  rcases hv with hv | hv
  · obtain ⟨u6, u8, hp6, hp8, hF, hN, hW⟩ := hv
    have hfd := hF.1
    have hby := hF.2.1
    have hkw := hF.2.2.1
    have h40z := hF.2.2.2.1
    have h40 := hF.2.2.2.2.1
    have hink2 := hF.2.2.2.2.2.1
    have hwt := hF.2.2.2.2.2.2.1
    have hdy := hF.2.2.2.2.2.2.2.1
    have hds := hF.2.2.2.2.2.2.2.2.1
    have hink := hF.2.2.2.2.2.2.2.2.2.1
    have ht := hF.2.2.2.2.2.2.2.2.2.2.1
    have ho := hF.2.2.2.2.2.2.2.2.2.2.2.1
    have hac := hF.2.2.2.2.2.2.2.2.2.2.2.2.1
    have him := hF.2.2.2.2.2.2.2.2.2.2.2.2.2.1
    have hc0 := hF.2.2.2.2.2.2.2.2.2.2.2.2.2.2.1
    have hc1 := hF.2.2.2.2.2.2.2.2.2.2.2.2.2.2.2.1
    have hc2 := hF.2.2.2.2.2.2.2.2.2.2.2.2.2.2.2.2.1
    have hc3 := hF.2.2.2.2.2.2.2.2.2.2.2.2.2.2.2.2.2.1
    have hc4 := hF.2.2.2.2.2.2.2.2.2.2.2.2.2.2.2.2.2.2.1
    have hc5 := hF.2.2.2.2.2.2.2.2.2.2.2.2.2.2.2.2.2.2.2.1
    have hc6 := hF.2.2.2.2.2.2.2.2.2.2.2.2.2.2.2.2.2.2.2.2.1
    have hc7 := hF.2.2.2.2.2.2.2.2.2.2.2.2.2.2.2.2.2.2.2.2.2
    have htr := hW.1
    have htl := hW.2.1
    have hy0 := hN.1
    have hy3 : (s6_cy u6) 3 = 0 := hy0 3 (by decide)
    have hy4 : (s6_cy u6) 4 = 0 := hy0 4 (by decide)
    have hy5 : (s6_cy u6) 5 = 0 := hy0 5 (by decide)
    have hy6 : (s6_cy u6) 6 = 0 := hy0 6 (by decide)
    refine ⟨(wrI (W6 E x (((s6_g u6), (s6_xa u6), (s6_ra u6), (s6_caz u6), (s6_ca u6), (s6_pq u6), (s6_fl u6), 1), g6_1 u6, g6_2 u6, g6_3 u6, g6_4 u6, g6_5 u6, g6_6 u6, g6_7 u6, g6_8 u6, g6_9 u6, g6_10 u6)) ((-1))), (wrI (W8n E k (((s6_g u6), (s6_xa u6), (s6_ra u6), (s6_caz u6), (s6_ca u6), (s6_pq u6), (s6_fl u6), 1), g6_1 u6, g6_2 u6, g6_3 u6, g6_4 u6, g6_5 u6, g6_6 u6, g6_7 u6, g6_8 u6, g6_9 u6, g6_10 u6) (((s8_q u8), 0, 1, (-1), (s8_rr u8), (s8_z u8), (s8_nb u8), (s8_wa u8)), g8_1 u8, g8_2 u8, g8_3 u8, g8_4 u8)) ((-1))), Ct.perm hp6.symm (Ct.frI (c_X6_spread_no l E x (s6_xa u6) (s6_g u6) (s6_tr u6) (s6_fl u6) (s6_pl u6) (s6_cy u6) (s6_ca u6) (by first | assumption | omega) (by first | assumption | omega)) [0, 20] rfl rfl rfl rfl), Ct.perm hp8.symm (Ct.frI (c_X8_spread_n l E k (s8_th u8) (s8_tr8 u8) (s8_wh u8) (s8_rr u8) (s8_q u8) (upN (upN (upN (upN (s8_z u8) 6 (s6_fd u6)) 12 (s6_fl u6)) 19 (s6_ac u6)) 20 (s6_im u6)) (s8_nb u8) (s8_wa u8) (s8_wd u8) (s8_ev u8) (s8_al u8) (s8_wl u8) ) [0] rfl rfl rfl rfl), fun r w h => ⟨_, h.2⟩, ?_⟩
    rintro r w r' w' ⟨rfl, rfl⟩ ⟨rfl, rfl⟩
    exact ⟨congrArg (fun z => some (Value.int z)) (rfl), Or.inl ⟨(((s6_g u6), (s6_xa u6), (s6_ra u6), (s6_caz u6), (s6_ca u6), (s6_pq u6), (s6_fl u6), 1), g6_1 u6, g6_2 u6, g6_3 u6, g6_4 u6, g6_5 u6, g6_6 u6, g6_7 u6, g6_8 u6, g6_9 u6, g6_10 u6), (((s8_q u8), 0, 1, (-1), (s8_rr u8), (s8_z u8), (s8_nb u8), (s8_wa u8)), g8_1 u8, g8_2 u8, g8_3 u8, g8_4 u8), List.Perm.refl _, List.Perm.refl _, hF, hN, tw_of 1 (rfl) (by decide) (by decide)⟩⟩
  · obtain ⟨u6, u8, hp6, hp8, hF, hG, hP, hW⟩ := hv
    have hfd := hF.1
    have hby := hF.2.1
    have hkw := hF.2.2.1
    have h40z := hF.2.2.2.1
    have h40 := hF.2.2.2.2.1
    have hink2 := hF.2.2.2.2.2.1
    have hwt := hF.2.2.2.2.2.2.1
    have hdy := hF.2.2.2.2.2.2.2.1
    have hds := hF.2.2.2.2.2.2.2.2.1
    have hink := hF.2.2.2.2.2.2.2.2.2.1
    have ht := hF.2.2.2.2.2.2.2.2.2.2.1
    have ho := hF.2.2.2.2.2.2.2.2.2.2.2.1
    have hac := hF.2.2.2.2.2.2.2.2.2.2.2.2.1
    have him := hF.2.2.2.2.2.2.2.2.2.2.2.2.2.1
    have hc0 := hF.2.2.2.2.2.2.2.2.2.2.2.2.2.2.1
    have hc1 := hF.2.2.2.2.2.2.2.2.2.2.2.2.2.2.2.1
    have hc2 := hF.2.2.2.2.2.2.2.2.2.2.2.2.2.2.2.2.1
    have hc3 := hF.2.2.2.2.2.2.2.2.2.2.2.2.2.2.2.2.2.1
    have hc4 := hF.2.2.2.2.2.2.2.2.2.2.2.2.2.2.2.2.2.2.1
    have hc5 := hF.2.2.2.2.2.2.2.2.2.2.2.2.2.2.2.2.2.2.2.1
    have hc6 := hF.2.2.2.2.2.2.2.2.2.2.2.2.2.2.2.2.2.2.2.2.1
    have hc7 := hF.2.2.2.2.2.2.2.2.2.2.2.2.2.2.2.2.2.2.2.2.2
    have htr := hW.1
    have htl := hW.2.1
    have hgb := g8_b hc4 hc5 hc7 hG
    have hfo := hgb.1
    have hon := hgb.2.1
    have htw := hgb.2.2.1
    have hFs := hgb.2.2.2.1
    have hFt := hgb.2.2.2.2.1
    have hik := hgb.2.2.2.2.2.1
    have hun := hgb.2.2.2.2.2.2.1
    have hdi := hgb.2.2.2.2.2.2.2.1
    have hd2 := hgb.2.2.2.2.2.2.2.2.1
    have hd3 := hgb.2.2.2.2.2.2.2.2.2.1
    have hkp := hgb.2.2.2.2.2.2.2.2.2.2.1
    have hm1 := hgb.2.2.2.2.2.2.2.2.2.2.2.1
    have hal_ := hgb.2.2.2.2.2.2.2.2.2.2.2.2
    have hal := hal_ (s6_t u6)
    have hz : ∀ c, (s6_cy u6) 5 ≤ c → (s6_ink u6) c = 0 := hP.1.2.1
    have hmz : ∀ c, (s6_cy u6) 5 ≤ c → (s6_mn u6) c = -1 := hP.1.2.2.1
    have hdd9 : (s6_dd u6) ≤ 999 := hP.1.2.2.2.2
    have hw8 := w8_e hG
    have h30 : ¬ (s6_cy u6) 3 = 0 := by omega
    refine ⟨(wrI (W6 E x (((s6_g u6), (s6_xa u6), (s6_ra u6), (s6_caz u6), (s6_ca u6), (s6_pq u6), (s6_fl u6), 0), g6_1 u6, g6_2 u6, g6_3 u6, g6_4 u6, g6_5 u6, g6_6 u6, g6_7 u6, g6_8 u6, ((s6_wt u6), (s6_hr u6), (s6_hs u6), ((gsS (gsK (s6_cy u6) (s6_Fs u6) (s6_Ft u6) (s6_t u6)) (s6_ink u6) (fmN (gsK (s6_cy u6) (s6_Fs u6) (s6_Ft u6) (s6_t u6)) (s6_ink u6) ((s6_row u6), (s6_sl u6)) (cnt (fun k => (bbits (fun c => decide (0 < (s6_ink u6) c)) 8).testBit k) 8)) (fmW (gsK (s6_cy u6) (s6_Fs u6) (s6_Ft u6) (s6_t u6)) (s6_ink u6) ((s6_row u6), (s6_sl u6)) (fmN (gsK (s6_cy u6) (s6_Fs u6) (s6_Ft u6) (s6_t u6)) (s6_ink u6) ((s6_row u6), (s6_sl u6)) (cnt (fun k => (bbits (fun c => decide (0 < (s6_ink u6) c)) 8).testBit k) 8)))).2.1), ((gsS (gsK (s6_cy u6) (s6_Fs u6) (s6_Ft u6) (s6_t u6)) (s6_ink u6) (fmN (gsK (s6_cy u6) (s6_Fs u6) (s6_Ft u6) (s6_t u6)) (s6_ink u6) ((s6_row u6), (s6_sl u6)) (cnt (fun k => (bbits (fun c => decide (0 < (s6_ink u6) c)) 8).testBit k) 8)) (fmW (gsK (s6_cy u6) (s6_Fs u6) (s6_Ft u6) (s6_t u6)) (s6_ink u6) ((s6_row u6), (s6_sl u6)) (fmN (gsK (s6_cy u6) (s6_Fs u6) (s6_Ft u6) (s6_t u6)) (s6_ink u6) ((s6_row u6), (s6_sl u6)) (cnt (fun k => (bbits (fun c => decide (0 < (s6_ink u6) c)) 8).testBit k) 8)))).2.2), (s6_pa u6), (s6_pb u6), (s6_pk u6)), g6_10 u6)) (nI (fmN (gsK (s6_cy u6) (s6_Fs u6) (s6_Ft u6) (s6_t u6)) (s6_ink u6) ((s6_row u6), (s6_sl u6)) (cnt (fun k => (bbits (fun c => decide (0 < (s6_ink u6) c)) 8).testBit k) 8)))), (jwrI (fun jp => W8c E k (((s6_g u6), (s6_xa u6), (s6_ra u6), (s6_caz u6), (s6_ca u6), (s6_pq u6), (s6_fl u6), 0), g6_1 u6, g6_2 u6, g6_3 u6, g6_4 u6, g6_5 u6, g6_6 u6, g6_7 u6, g6_8 u6, ((s6_wt u6), (s6_hr u6), (s6_hs u6), ((gsS (gsK (s6_cy u6) (s6_Fs u6) (s6_Ft u6) (s6_t u6)) (s6_ink u6) (fmN (gsK (s6_cy u6) (s6_Fs u6) (s6_Ft u6) (s6_t u6)) (s6_ink u6) ((s6_row u6), (s6_sl u6)) (cnt (fun k => (bbits (fun c => decide (0 < (s6_ink u6) c)) 8).testBit k) 8)) (fmW (gsK (s6_cy u6) (s6_Fs u6) (s6_Ft u6) (s6_t u6)) (s6_ink u6) ((s6_row u6), (s6_sl u6)) (fmN (gsK (s6_cy u6) (s6_Fs u6) (s6_Ft u6) (s6_t u6)) (s6_ink u6) ((s6_row u6), (s6_sl u6)) (cnt (fun k => (bbits (fun c => decide (0 < (s6_ink u6) c)) 8).testBit k) 8)))).2.1), ((gsS (gsK (s6_cy u6) (s6_Fs u6) (s6_Ft u6) (s6_t u6)) (s6_ink u6) (fmN (gsK (s6_cy u6) (s6_Fs u6) (s6_Ft u6) (s6_t u6)) (s6_ink u6) ((s6_row u6), (s6_sl u6)) (cnt (fun k => (bbits (fun c => decide (0 < (s6_ink u6) c)) 8).testBit k) 8)) (fmW (gsK (s6_cy u6) (s6_Fs u6) (s6_Ft u6) (s6_t u6)) (s6_ink u6) ((s6_row u6), (s6_sl u6)) (fmN (gsK (s6_cy u6) (s6_Fs u6) (s6_Ft u6) (s6_t u6)) (s6_ink u6) ((s6_row u6), (s6_sl u6)) (cnt (fun k => (bbits (fun c => decide (0 < (s6_ink u6) c)) 8).testBit k) 8)))).2.2), (s6_pa u6), (s6_pb u6), (s6_pk u6)), g6_10 u6) (((s8_q u8), 0, 0, (-1), (s8_rr u8), (s8_z u8), (s8_nb u8), (s8_wa u8)), ((s8_wd u8), (allS ((s6_cy u6) 4)), (s8_al u8), (s8_wl u8), (xF (s6_mn u6) (s6_ink u6) (s6_t u6) (s6_dd u6)), (s8_pp u8), (s8_pj8 u8), (lyF (s6_Fs u6) (s6_Ft u6) (s6_t u6) ((s6_cy u6) 4) (s8_ke u8) ((s6_cy u6) 5))), ((if (bbits (fun cx => decide (0 < (s6_ink u6) cx)) 8) = 0 then (s8_g2 u8) else gI (spA (okS (s6_cy u6) (s6_Fs u6) (s6_Ft u6) (s6_t u6)) (bbits (fun cx => decide (0 < (s6_ink u6) cx)) 8) (spN (okS (s6_cy u6) (s6_Fs u6) (s6_Ft u6) (s6_t u6)) (bbits (fun cx => decide (0 < (s6_ink u6) cx)) 8) ((s6_cy u6) 5)) ((s6_cy u6) 5))), jp, (s8_ti u8), (s8_vf u8), (s8_g8 u8), (s8_cb u8), (s8_kp u8), (s8_nc u8)), g8_3 u8, g8_4 u8)) (nI (spN (okS (s6_cy u6) (s6_Fs u6) (s6_Ft u6) (s6_t u6)) (bbits (fun cx => decide (0 < (s6_ink u6) cx)) 8) ((s6_cy u6) 5)))), Ct.perm hp6.symm (Ct.frI (c_X6_spread l E x (s6_xa u6) (s6_g u6) (s6_tr u6) (s6_fl u6) (s6_pl u6) (s6_cy u6) (s6_ca u6) (s6_Fs u6) (s6_Ft u6) (s6_hi u6) (s6_hm u6) (s6_t u6) (s6_dd u6) (s6_ink u6) (s6_mn u6) (s6_hr u6) (s6_hs u6) (s6_row u6) (s6_sl u6) (by first | assumption | omega) (by first | assumption | omega) (by first | assumption | omega) (by first | assumption | omega) (by first | assumption | omega) (by first | assumption | omega)) [0, 20, 26, 27, 36, 37, 38, 47, 48, 49] rfl rfl rfl rfl), Ct.perm hp8.symm (Ct.fjI (c_X8_spread l E k (s8_th u8) (s8_tr8 u8) (s8_wh u8) (s8_g8 u8) (s8_rr u8) (s8_q u8) (upN (upN (upN (upN (s8_z u8) 6 (s6_fd u6)) 12 (s6_fl u6)) 19 (s6_ac u6)) 20 (s6_im u6)) (s8_nb u8) (s8_wa u8) (s8_wd u8) (s8_ev u8) (s8_al u8) (s8_wl u8) (s6_cy u6) (s8_kp u8) (s8_nc u8) (s8_cb u8) (s8_gf u8) (s8_go_ u8) (s8_gt_ u8) (s8_xf u8) (s6_mn u6) (s6_ink u6) (s6_t u6) (s6_dd u6) (s6_Fs u6) (s6_Ft u6) (s8_ke u8) (s8_g2 u8) (s8_hv u8) (by first | assumption | omega) (by first | assumption | omega) (by first | assumption | omega) (by first | assumption | omega) (by first | assumption | omega) (by first | assumption | omega) (by first | assumption | omega) (by first | assumption | omega) (by first | assumption | omega) (by first | assumption | omega)) [0, 10, 13, 14, 15, 2, 3, 6, 7, 8] rfl rfl (fun _ => rfl) (fun _ => rfl)), fun r w h => ⟨_, h.2⟩, ?_⟩
    rintro r w r' w' ⟨rfl, rfl⟩ ⟨⟨jp, rfl⟩, rfl⟩
    exact ⟨congrArg (fun z => some (Value.int z)) (congrArg nI (fm_N hc4 hc5 (bb_ltk hz))), Or.inr ⟨(((s6_g u6), (s6_xa u6), (s6_ra u6), (s6_caz u6), (s6_ca u6), (s6_pq u6), (s6_fl u6), 0), g6_1 u6, g6_2 u6, g6_3 u6, g6_4 u6, g6_5 u6, g6_6 u6, g6_7 u6, g6_8 u6, ((s6_wt u6), (s6_hr u6), (s6_hs u6), ((gsS (gsK (s6_cy u6) (s6_Fs u6) (s6_Ft u6) (s6_t u6)) (s6_ink u6) (fmN (gsK (s6_cy u6) (s6_Fs u6) (s6_Ft u6) (s6_t u6)) (s6_ink u6) ((s6_row u6), (s6_sl u6)) (cnt (fun k => (bbits (fun c => decide (0 < (s6_ink u6) c)) 8).testBit k) 8)) (fmW (gsK (s6_cy u6) (s6_Fs u6) (s6_Ft u6) (s6_t u6)) (s6_ink u6) ((s6_row u6), (s6_sl u6)) (fmN (gsK (s6_cy u6) (s6_Fs u6) (s6_Ft u6) (s6_t u6)) (s6_ink u6) ((s6_row u6), (s6_sl u6)) (cnt (fun k => (bbits (fun c => decide (0 < (s6_ink u6) c)) 8).testBit k) 8)))).2.1), ((gsS (gsK (s6_cy u6) (s6_Fs u6) (s6_Ft u6) (s6_t u6)) (s6_ink u6) (fmN (gsK (s6_cy u6) (s6_Fs u6) (s6_Ft u6) (s6_t u6)) (s6_ink u6) ((s6_row u6), (s6_sl u6)) (cnt (fun k => (bbits (fun c => decide (0 < (s6_ink u6) c)) 8).testBit k) 8)) (fmW (gsK (s6_cy u6) (s6_Fs u6) (s6_Ft u6) (s6_t u6)) (s6_ink u6) ((s6_row u6), (s6_sl u6)) (fmN (gsK (s6_cy u6) (s6_Fs u6) (s6_Ft u6) (s6_t u6)) (s6_ink u6) ((s6_row u6), (s6_sl u6)) (cnt (fun k => (bbits (fun c => decide (0 < (s6_ink u6) c)) 8).testBit k) 8)))).2.2), (s6_pa u6), (s6_pb u6), (s6_pk u6)), g6_10 u6), (((s8_q u8), 0, 0, (-1), (s8_rr u8), (s8_z u8), (s8_nb u8), (s8_wa u8)), ((s8_wd u8), (allS ((s6_cy u6) 4)), (s8_al u8), (s8_wl u8), (xF (s6_mn u6) (s6_ink u6) (s6_t u6) (s6_dd u6)), (s8_pp u8), (s8_pj8 u8), (lyF (s6_Fs u6) (s6_Ft u6) (s6_t u6) ((s6_cy u6) 4) (s8_ke u8) ((s6_cy u6) 5))), ((if (bbits (fun cx => decide (0 < (s6_ink u6) cx)) 8) = 0 then (s8_g2 u8) else gI (spA (okS (s6_cy u6) (s6_Fs u6) (s6_Ft u6) (s6_t u6)) (bbits (fun cx => decide (0 < (s6_ink u6) cx)) 8) (spN (okS (s6_cy u6) (s6_Fs u6) (s6_Ft u6) (s6_t u6)) (bbits (fun cx => decide (0 < (s6_ink u6) cx)) 8) ((s6_cy u6) 5)) ((s6_cy u6) 5))), jp, (s8_ti u8), (s8_vf u8), (s8_g8 u8), (s8_cb u8), (s8_kp u8), (s8_nc u8)), g8_3 u8, g8_4 u8), List.Perm.refl _, List.Perm.refl _, hF, hG, hP, tw_of 0 (rfl) (by decide) (by decide)⟩⟩
set_option maxRecDepth 100000 in
set_option maxHeartbeats 4000000 in
theorem op_spreadAt (l : Launch) (E : Et) (x k : Nat) (p1 : Int32) : OpI E x k (fun w P => Ct l E yX6_spreadAt cX6_spreadAt 2 (some .int) 15 0 0 [.ref x, .int p1] w P) (fun w P => Ct l E yX8_spreadAt cX8_spreadAt 2 (some .int) 5 0 0 [.ref k, .int p1] w P) := by
  intro w6 w8 hv
  rcases hv with hv | hv
  · obtain ⟨u6, u8, hp6, hp8, hF, hN, hW⟩ := hv
    have hfd := hF.1
    have hby := hF.2.1
    have hkw := hF.2.2.1
    have h40z := hF.2.2.2.1
    have h40 := hF.2.2.2.2.1
    have hink2 := hF.2.2.2.2.2.1
    have hwt := hF.2.2.2.2.2.2.1
    have hdy := hF.2.2.2.2.2.2.2.1
    have hds := hF.2.2.2.2.2.2.2.2.1
    have hink := hF.2.2.2.2.2.2.2.2.2.1
    have ht := hF.2.2.2.2.2.2.2.2.2.2.1
    have ho := hF.2.2.2.2.2.2.2.2.2.2.2.1
    have hac := hF.2.2.2.2.2.2.2.2.2.2.2.2.1
    have him := hF.2.2.2.2.2.2.2.2.2.2.2.2.2.1
    have hc0 := hF.2.2.2.2.2.2.2.2.2.2.2.2.2.2.1
    have hc1 := hF.2.2.2.2.2.2.2.2.2.2.2.2.2.2.2.1
    have hc2 := hF.2.2.2.2.2.2.2.2.2.2.2.2.2.2.2.2.1
    have hc3 := hF.2.2.2.2.2.2.2.2.2.2.2.2.2.2.2.2.2.1
    have hc4 := hF.2.2.2.2.2.2.2.2.2.2.2.2.2.2.2.2.2.2.1
    have hc5 := hF.2.2.2.2.2.2.2.2.2.2.2.2.2.2.2.2.2.2.2.1
    have hc6 := hF.2.2.2.2.2.2.2.2.2.2.2.2.2.2.2.2.2.2.2.2.1
    have hc7 := hF.2.2.2.2.2.2.2.2.2.2.2.2.2.2.2.2.2.2.2.2.2
    have htr := hW.1
    have htl := hW.2.1
    have hy0 := hN.1
    have hy3 : (s6_cy u6) 3 = 0 := hy0 3 (by decide)
    have hy4 : (s6_cy u6) 4 = 0 := hy0 4 (by decide)
    have hy5 : (s6_cy u6) 5 = 0 := hy0 5 (by decide)
    have hy6 : (s6_cy u6) 6 = 0 := hy0 6 (by decide)
    refine ⟨(wrI (W6 E x (((s6_g u6), (s6_xa u6), (s6_ra u6), (s6_caz u6), (s6_ca u6), (s6_pq u6), (s6_fl u6), 1), g6_1 u6, g6_2 u6, g6_3 u6, g6_4 u6, g6_5 u6, g6_6 u6, g6_7 u6, g6_8 u6, g6_9 u6, g6_10 u6)) ((-1))), (wrI (W8n E k (((s6_g u6), (s6_xa u6), (s6_ra u6), (s6_caz u6), (s6_ca u6), (s6_pq u6), (s6_fl u6), 1), g6_1 u6, g6_2 u6, g6_3 u6, g6_4 u6, g6_5 u6, g6_6 u6, g6_7 u6, g6_8 u6, g6_9 u6, g6_10 u6) (((s8_q u8), 0, 1, (-1), (s8_rr u8), (s8_z u8), (s8_nb u8), (s8_wa u8)), g8_1 u8, g8_2 u8, g8_3 u8, g8_4 u8)) ((-1))), Ct.perm hp6.symm (Ct.frI (c_X6_spreadAt_no l E x (s6_xa u6) (s6_g u6) (s6_tr u6) (s6_fl u6) (s6_pl u6) (s6_cy u6) (s6_ca u6) p1 (okM_0 hy5)) [0, 20] rfl rfl rfl rfl), Ct.perm hp8.symm (Ct.frI (c_X8_spreadAt_n l E k (s8_th u8) (s8_tr8 u8) (s8_wh u8) (s8_rr u8) (s8_q u8) (upN (upN (upN (upN (s8_z u8) 6 (s6_fd u6)) 12 (s6_fl u6)) 19 (s6_ac u6)) 20 (s6_im u6)) (s8_nb u8) (s8_wa u8) (s8_wd u8) (s8_ev u8) (s8_al u8) (s8_wl u8) p1 ) [0] rfl rfl rfl rfl), fun r w h => ⟨_, h.2⟩, ?_⟩
    rintro r w r' w' ⟨rfl, rfl⟩ ⟨rfl, rfl⟩
    exact ⟨congrArg (fun z => some (Value.int z)) (rfl), Or.inl ⟨(((s6_g u6), (s6_xa u6), (s6_ra u6), (s6_caz u6), (s6_ca u6), (s6_pq u6), (s6_fl u6), 1), g6_1 u6, g6_2 u6, g6_3 u6, g6_4 u6, g6_5 u6, g6_6 u6, g6_7 u6, g6_8 u6, g6_9 u6, g6_10 u6), (((s8_q u8), 0, 1, (-1), (s8_rr u8), (s8_z u8), (s8_nb u8), (s8_wa u8)), g8_1 u8, g8_2 u8, g8_3 u8, g8_4 u8), List.Perm.refl _, List.Perm.refl _, hF, hN, tw_of 1 (rfl) (by decide) (by decide)⟩⟩
  · obtain ⟨u6, u8, hp6, hp8, hF, hG, hP, hW⟩ := hv
    have hfd := hF.1
    have hby := hF.2.1
    have hkw := hF.2.2.1
    have h40z := hF.2.2.2.1
    have h40 := hF.2.2.2.2.1
    have hink2 := hF.2.2.2.2.2.1
    have hwt := hF.2.2.2.2.2.2.1
    have hdy := hF.2.2.2.2.2.2.2.1
    have hds := hF.2.2.2.2.2.2.2.2.1
    have hink := hF.2.2.2.2.2.2.2.2.2.1
    have ht := hF.2.2.2.2.2.2.2.2.2.2.1
    have ho := hF.2.2.2.2.2.2.2.2.2.2.2.1
    have hac := hF.2.2.2.2.2.2.2.2.2.2.2.2.1
    have him := hF.2.2.2.2.2.2.2.2.2.2.2.2.2.1
    have hc0 := hF.2.2.2.2.2.2.2.2.2.2.2.2.2.2.1
    have hc1 := hF.2.2.2.2.2.2.2.2.2.2.2.2.2.2.2.1
    have hc2 := hF.2.2.2.2.2.2.2.2.2.2.2.2.2.2.2.2.1
    have hc3 := hF.2.2.2.2.2.2.2.2.2.2.2.2.2.2.2.2.2.1
    have hc4 := hF.2.2.2.2.2.2.2.2.2.2.2.2.2.2.2.2.2.2.1
    have hc5 := hF.2.2.2.2.2.2.2.2.2.2.2.2.2.2.2.2.2.2.2.1
    have hc6 := hF.2.2.2.2.2.2.2.2.2.2.2.2.2.2.2.2.2.2.2.2.1
    have hc7 := hF.2.2.2.2.2.2.2.2.2.2.2.2.2.2.2.2.2.2.2.2.2
    have htr := hW.1
    have htl := hW.2.1
    have hgb := g8_b hc4 hc5 hc7 hG
    have hfo := hgb.1
    have hon := hgb.2.1
    have htw := hgb.2.2.1
    have hFs := hgb.2.2.2.1
    have hFt := hgb.2.2.2.2.1
    have hik := hgb.2.2.2.2.2.1
    have hun := hgb.2.2.2.2.2.2.1
    have hdi := hgb.2.2.2.2.2.2.2.1
    have hd2 := hgb.2.2.2.2.2.2.2.2.1
    have hd3 := hgb.2.2.2.2.2.2.2.2.2.1
    have hkp := hgb.2.2.2.2.2.2.2.2.2.2.1
    have hm1 := hgb.2.2.2.2.2.2.2.2.2.2.2.1
    have hal_ := hgb.2.2.2.2.2.2.2.2.2.2.2.2
    have hal := hal_ (s6_t u6)
    have hz : ∀ c, (s6_cy u6) 5 ≤ c → (s6_ink u6) c = 0 := hP.1.2.1
    have hmz : ∀ c, (s6_cy u6) 5 ≤ c → (s6_mn u6) c = -1 := hP.1.2.2.1
    have hdd9 : (s6_dd u6) ≤ 999 := hP.1.2.2.2.2
    have hw8 := w8_e hG
    have h30 : ¬ (s6_cy u6) 3 = 0 := by omega
    by_cases hok : okM p1 ((s6_cy u6) 5)
    · obtain ⟨c0, hc0c, rfl⟩ := okM_nat hok (by omega)
      have hc31 : c0 < 2 ^ 31 := by omega
      refine ⟨(wrI (W6 E x (((s6_g u6), (s6_xa u6), (s6_ra u6), (s6_caz u6), (s6_ca u6), (s6_pq u6), (s6_fl u6), 0), g6_1 u6, g6_2 u6, g6_3 u6, g6_4 u6, g6_5 u6, g6_6 u6, g6_7 u6, g6_8 u6, ((s6_wt u6), (s6_hr u6), (s6_hs u6), ((gsS (gsK (s6_cy u6) (s6_Fs u6) (s6_Ft u6) (s6_t u6)) (s6_ink u6) (fmN (gsK (s6_cy u6) (s6_Fs u6) (s6_Ft u6) (s6_t u6)) (s6_ink u6) ((s6_row u6), (s6_sl u6)) (cnt (fun k => (bbits (fun c0 => decide (0 < (s6_ink u6) c0)) 8).testBit k) 8)) (fmW (gsK (s6_cy u6) (s6_Fs u6) (s6_Ft u6) (s6_t u6)) (s6_ink u6) ((s6_row u6), (s6_sl u6)) (fmN (gsK (s6_cy u6) (s6_Fs u6) (s6_Ft u6) (s6_t u6)) (s6_ink u6) ((s6_row u6), (s6_sl u6)) (cnt (fun k => (bbits (fun c0 => decide (0 < (s6_ink u6) c0)) 8).testBit k) 8)))).2.1), ((gsS (gsK (s6_cy u6) (s6_Fs u6) (s6_Ft u6) (s6_t u6)) (s6_ink u6) (fmN (gsK (s6_cy u6) (s6_Fs u6) (s6_Ft u6) (s6_t u6)) (s6_ink u6) ((s6_row u6), (s6_sl u6)) (cnt (fun k => (bbits (fun c0 => decide (0 < (s6_ink u6) c0)) 8).testBit k) 8)) (fmW (gsK (s6_cy u6) (s6_Fs u6) (s6_Ft u6) (s6_t u6)) (s6_ink u6) ((s6_row u6), (s6_sl u6)) (fmN (gsK (s6_cy u6) (s6_Fs u6) (s6_Ft u6) (s6_t u6)) (s6_ink u6) ((s6_row u6), (s6_sl u6)) (cnt (fun k => (bbits (fun c0 => decide (0 < (s6_ink u6) c0)) 8).testBit k) 8)))).2.2), (s6_pa u6), (s6_pb u6), (s6_pk u6)), g6_10 u6)) ((gsS (gsK (s6_cy u6) (s6_Fs u6) (s6_Ft u6) (s6_t u6)) (s6_ink u6) (fmN (gsK (s6_cy u6) (s6_Fs u6) (s6_Ft u6) (s6_t u6)) (s6_ink u6) ((s6_row u6), (s6_sl u6)) (cnt (fun k => (bbits (fun c0 => decide (0 < (s6_ink u6) c0)) 8).testBit k) 8)) (fmW (gsK (s6_cy u6) (s6_Fs u6) (s6_Ft u6) (s6_t u6)) (s6_ink u6) ((s6_row u6), (s6_sl u6)) (fmN (gsK (s6_cy u6) (s6_Fs u6) (s6_Ft u6) (s6_t u6)) (s6_ink u6) ((s6_row u6), (s6_sl u6)) (cnt (fun k => (bbits (fun c0 => decide (0 < (s6_ink u6) c0)) 8).testBit k) 8)))).2.1 c0)), (jwrI (fun jp => W8c E k (((s6_g u6), (s6_xa u6), (s6_ra u6), (s6_caz u6), (s6_ca u6), (s6_pq u6), (s6_fl u6), 0), g6_1 u6, g6_2 u6, g6_3 u6, g6_4 u6, g6_5 u6, g6_6 u6, g6_7 u6, g6_8 u6, ((s6_wt u6), (s6_hr u6), (s6_hs u6), ((gsS (gsK (s6_cy u6) (s6_Fs u6) (s6_Ft u6) (s6_t u6)) (s6_ink u6) (fmN (gsK (s6_cy u6) (s6_Fs u6) (s6_Ft u6) (s6_t u6)) (s6_ink u6) ((s6_row u6), (s6_sl u6)) (cnt (fun k => (bbits (fun c0 => decide (0 < (s6_ink u6) c0)) 8).testBit k) 8)) (fmW (gsK (s6_cy u6) (s6_Fs u6) (s6_Ft u6) (s6_t u6)) (s6_ink u6) ((s6_row u6), (s6_sl u6)) (fmN (gsK (s6_cy u6) (s6_Fs u6) (s6_Ft u6) (s6_t u6)) (s6_ink u6) ((s6_row u6), (s6_sl u6)) (cnt (fun k => (bbits (fun c0 => decide (0 < (s6_ink u6) c0)) 8).testBit k) 8)))).2.1), ((gsS (gsK (s6_cy u6) (s6_Fs u6) (s6_Ft u6) (s6_t u6)) (s6_ink u6) (fmN (gsK (s6_cy u6) (s6_Fs u6) (s6_Ft u6) (s6_t u6)) (s6_ink u6) ((s6_row u6), (s6_sl u6)) (cnt (fun k => (bbits (fun c0 => decide (0 < (s6_ink u6) c0)) 8).testBit k) 8)) (fmW (gsK (s6_cy u6) (s6_Fs u6) (s6_Ft u6) (s6_t u6)) (s6_ink u6) ((s6_row u6), (s6_sl u6)) (fmN (gsK (s6_cy u6) (s6_Fs u6) (s6_Ft u6) (s6_t u6)) (s6_ink u6) ((s6_row u6), (s6_sl u6)) (cnt (fun k => (bbits (fun c0 => decide (0 < (s6_ink u6) c0)) 8).testBit k) 8)))).2.2), (s6_pa u6), (s6_pb u6), (s6_pk u6)), g6_10 u6) (((s8_q u8), 0, 0, (-1), (s8_rr u8), (s8_z u8), (s8_nb u8), (s8_wa u8)), ((s8_wd u8), (allS ((s6_cy u6) 4)), (s8_al u8), (s8_wl u8), (xF (s6_mn u6) (s6_ink u6) (s6_t u6) (s6_dd u6)), (s8_pp u8), (s8_pj8 u8), (lyF (s6_Fs u6) (s6_Ft u6) (s6_t u6) ((s6_cy u6) 4) (s8_ke u8) ((s6_cy u6) 5))), ((if (bbits (fun cx => decide (0 < (s6_ink u6) cx)) 8) = 0 then (s8_g2 u8) else gI (spA (okS (s6_cy u6) (s6_Fs u6) (s6_Ft u6) (s6_t u6)) (bbits (fun cx => decide (0 < (s6_ink u6) cx)) 8) (spN (okS (s6_cy u6) (s6_Fs u6) (s6_Ft u6) (s6_t u6)) (bbits (fun cx => decide (0 < (s6_ink u6) cx)) 8) ((s6_cy u6) 5)) ((s6_cy u6) 5))), jp, (s8_ti u8), (s8_vf u8), (s8_g8 u8), (s8_cb u8), (s8_kp u8), (s8_nc u8)), g8_3 u8, g8_4 u8)) (if (s6_ink u6) c0 = 0 then (-2) else gI (spA (okS (s6_cy u6) (s6_Fs u6) (s6_Ft u6) (s6_t u6)) (bbits (fun cx => decide (0 < (s6_ink u6) cx)) 8) (spN (okS (s6_cy u6) (s6_Fs u6) (s6_Ft u6) (s6_t u6)) (bbits (fun cx => decide (0 < (s6_ink u6) cx)) 8) ((s6_cy u6) 5)) ((s6_cy u6) 5)) c0)), Ct.perm hp6.symm (Ct.frI (c_X6_spreadAt l E x (s6_xa u6) (s6_g u6) (s6_tr u6) (s6_fl u6) (s6_pl u6) (s6_cy u6) (s6_ca u6) (s6_Fs u6) (s6_Ft u6) (s6_hi u6) (s6_hm u6) (s6_t u6) (s6_dd u6) (s6_ink u6) (s6_mn u6) (s6_hr u6) (s6_hs u6) (s6_row u6) (s6_sl u6) c0 (by first | assumption | omega) (by first | assumption | omega) (by first | assumption | omega) (by first | assumption | omega) (by first | assumption | omega) (by first | assumption | omega)) [0, 20, 26, 27, 36, 37, 38, 47, 48, 49] rfl rfl rfl rfl), Ct.perm hp8.symm (Ct.fjI (c_X8_spreadAt l E k (s8_th u8) (s8_tr8 u8) (s8_wh u8) (s8_g8 u8) (s8_rr u8) (s8_q u8) (upN (upN (upN (upN (s8_z u8) 6 (s6_fd u6)) 12 (s6_fl u6)) 19 (s6_ac u6)) 20 (s6_im u6)) (s8_nb u8) (s8_wa u8) (s8_wd u8) (s8_ev u8) (s8_al u8) (s8_wl u8) (s6_cy u6) (s8_kp u8) (s8_nc u8) (s8_cb u8) (s8_gf u8) (s8_go_ u8) (s8_gt_ u8) (s8_xf u8) (s6_mn u6) (s6_ink u6) (s6_t u6) (s6_dd u6) (s6_Fs u6) (s6_Ft u6) (s8_ke u8) (s8_g2 u8) (s8_hv u8) c0 (by first | assumption | omega) (by first | assumption | omega) (by first | assumption | omega) (by first | assumption | omega) (by first | assumption | omega) (by first | assumption | omega) (by first | assumption | omega) (by first | assumption | omega) (by first | assumption | omega) (by first | assumption | omega) (by first | assumption | omega)) [0, 10, 13, 14, 15, 2, 3, 6, 7, 8] rfl rfl (fun _ => rfl) (fun _ => rfl)), fun r w h => ⟨_, h.2⟩, ?_⟩
      rintro r w r' w' ⟨rfl, rfl⟩ ⟨⟨jp, rfl⟩, rfl⟩
      exact ⟨congrArg (fun z => some (Value.int z)) (fm_row hc4 hc5 (bb_ltk hz) hal (by omega)), Or.inr ⟨(((s6_g u6), (s6_xa u6), (s6_ra u6), (s6_caz u6), (s6_ca u6), (s6_pq u6), (s6_fl u6), 0), g6_1 u6, g6_2 u6, g6_3 u6, g6_4 u6, g6_5 u6, g6_6 u6, g6_7 u6, g6_8 u6, ((s6_wt u6), (s6_hr u6), (s6_hs u6), ((gsS (gsK (s6_cy u6) (s6_Fs u6) (s6_Ft u6) (s6_t u6)) (s6_ink u6) (fmN (gsK (s6_cy u6) (s6_Fs u6) (s6_Ft u6) (s6_t u6)) (s6_ink u6) ((s6_row u6), (s6_sl u6)) (cnt (fun k => (bbits (fun c0 => decide (0 < (s6_ink u6) c0)) 8).testBit k) 8)) (fmW (gsK (s6_cy u6) (s6_Fs u6) (s6_Ft u6) (s6_t u6)) (s6_ink u6) ((s6_row u6), (s6_sl u6)) (fmN (gsK (s6_cy u6) (s6_Fs u6) (s6_Ft u6) (s6_t u6)) (s6_ink u6) ((s6_row u6), (s6_sl u6)) (cnt (fun k => (bbits (fun c0 => decide (0 < (s6_ink u6) c0)) 8).testBit k) 8)))).2.1), ((gsS (gsK (s6_cy u6) (s6_Fs u6) (s6_Ft u6) (s6_t u6)) (s6_ink u6) (fmN (gsK (s6_cy u6) (s6_Fs u6) (s6_Ft u6) (s6_t u6)) (s6_ink u6) ((s6_row u6), (s6_sl u6)) (cnt (fun k => (bbits (fun c0 => decide (0 < (s6_ink u6) c0)) 8).testBit k) 8)) (fmW (gsK (s6_cy u6) (s6_Fs u6) (s6_Ft u6) (s6_t u6)) (s6_ink u6) ((s6_row u6), (s6_sl u6)) (fmN (gsK (s6_cy u6) (s6_Fs u6) (s6_Ft u6) (s6_t u6)) (s6_ink u6) ((s6_row u6), (s6_sl u6)) (cnt (fun k => (bbits (fun c0 => decide (0 < (s6_ink u6) c0)) 8).testBit k) 8)))).2.2), (s6_pa u6), (s6_pb u6), (s6_pk u6)), g6_10 u6), (((s8_q u8), 0, 0, (-1), (s8_rr u8), (s8_z u8), (s8_nb u8), (s8_wa u8)), ((s8_wd u8), (allS ((s6_cy u6) 4)), (s8_al u8), (s8_wl u8), (xF (s6_mn u6) (s6_ink u6) (s6_t u6) (s6_dd u6)), (s8_pp u8), (s8_pj8 u8), (lyF (s6_Fs u6) (s6_Ft u6) (s6_t u6) ((s6_cy u6) 4) (s8_ke u8) ((s6_cy u6) 5))), ((if (bbits (fun cx => decide (0 < (s6_ink u6) cx)) 8) = 0 then (s8_g2 u8) else gI (spA (okS (s6_cy u6) (s6_Fs u6) (s6_Ft u6) (s6_t u6)) (bbits (fun cx => decide (0 < (s6_ink u6) cx)) 8) (spN (okS (s6_cy u6) (s6_Fs u6) (s6_Ft u6) (s6_t u6)) (bbits (fun cx => decide (0 < (s6_ink u6) cx)) 8) ((s6_cy u6) 5)) ((s6_cy u6) 5))), jp, (s8_ti u8), (s8_vf u8), (s8_g8 u8), (s8_cb u8), (s8_kp u8), (s8_nc u8)), g8_3 u8, g8_4 u8), List.Perm.refl _, List.Perm.refl _, hF, hG, hP, tw_of 0 (rfl) (by decide) (by decide)⟩⟩
    · refine ⟨(wrI (W6 E x (((s6_g u6), (s6_xa u6), (s6_ra u6), (s6_caz u6), (s6_ca u6), (s6_pq u6), (s6_fl u6), 1), g6_1 u6, g6_2 u6, g6_3 u6, g6_4 u6, g6_5 u6, g6_6 u6, g6_7 u6, g6_8 u6, g6_9 u6, g6_10 u6)) ((-1))), (wrI (W8c E k (((s6_g u6), (s6_xa u6), (s6_ra u6), (s6_caz u6), (s6_ca u6), (s6_pq u6), (s6_fl u6), 1), g6_1 u6, g6_2 u6, g6_3 u6, g6_4 u6, g6_5 u6, g6_6 u6, g6_7 u6, g6_8 u6, g6_9 u6, g6_10 u6) (((s8_q u8), 0, 1, (-1), (s8_rr u8), (s8_z u8), (s8_nb u8), (s8_wa u8)), g8_1 u8, g8_2 u8, g8_3 u8, g8_4 u8)) ((-1))), Ct.perm hp6.symm (Ct.frI (c_X6_spreadAt_no l E x (s6_xa u6) (s6_g u6) (s6_tr u6) (s6_fl u6) (s6_pl u6) (s6_cy u6) (s6_ca u6) p1 (by first | assumption | omega)) [0, 20] rfl rfl rfl rfl), Ct.perm hp8.symm (Ct.frI (c_X8_spreadAt_no l E k (s8_th u8) (s8_tr8 u8) (s8_wh u8) (s8_g8 u8) (s8_rr u8) (s8_q u8) (upN (upN (upN (upN (s8_z u8) 6 (s6_fd u6)) 12 (s6_fl u6)) 19 (s6_ac u6)) 20 (s6_im u6)) (s8_nb u8) (s8_wa u8) (s8_wd u8) (s8_ev u8) (s8_al u8) (s8_wl u8) (s6_cy u6) (s8_kp u8) (s8_nc u8) (s8_cb u8) p1 (by first | assumption | omega)) [0, 10] rfl rfl rfl rfl), fun r w h => ⟨_, h.2⟩, ?_⟩
      rintro r w r' w' ⟨rfl, rfl⟩ ⟨rfl, rfl⟩
      exact ⟨congrArg (fun z => some (Value.int z)) (rfl), Or.inr ⟨(((s6_g u6), (s6_xa u6), (s6_ra u6), (s6_caz u6), (s6_ca u6), (s6_pq u6), (s6_fl u6), 1), g6_1 u6, g6_2 u6, g6_3 u6, g6_4 u6, g6_5 u6, g6_6 u6, g6_7 u6, g6_8 u6, g6_9 u6, g6_10 u6), (((s8_q u8), 0, 1, (-1), (s8_rr u8), (s8_z u8), (s8_nb u8), (s8_wa u8)), g8_1 u8, g8_2 u8, g8_3 u8, g8_4 u8), List.Perm.refl _, List.Perm.refl _, hF, hG, hP, tw_of 1 (rfl) (by decide) (by decide)⟩⟩
