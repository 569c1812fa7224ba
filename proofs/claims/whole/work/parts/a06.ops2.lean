set_option maxRecDepth 100000 in
set_option maxHeartbeats 4000000 in
theorem op_keeps (l : Launch) (E : Et) (x k : Nat) (p1 : Int32) (p2 : Int32) : OpI E x k (fun w P => Ct l E yX6_keeps cX6_keeps 3 (some .int) 6 0 0 [.ref x, .int p1, .int p2] w P) (fun w P => Ct l E yX8_keeps cX8_keeps 3 (some .int) 5 0 0 [.ref k, .int p1, .int p2] w P) := by
  intro w6 w8 hv
  rcases hv with hv | hv
  · obtain ⟨u6, u8, hp6, hp8, hF, hN, hW⟩ := hv
    have hfd := hF.1
    have hby := hF.2.1
    have hkw := hF.2.2.1
    have h40z := hF.2.2.2.1
    have h40 := hF.2.2.2.2.1
    have hink2 := hF.2.2.2.2.2.1
    have hwt := hF.2.2.2.2.2.2.1
    have hdy := hF.2.2.2.2.2.2.2.1
    have hds := hF.2.2.2.2.2.2.2.2.1
    have hink := hF.2.2.2.2.2.2.2.2.2.1
    have ht := hF.2.2.2.2.2.2.2.2.2.2.1
    have ho := hF.2.2.2.2.2.2.2.2.2.2.2.1
    have hac := hF.2.2.2.2.2.2.2.2.2.2.2.2.1
    have him := hF.2.2.2.2.2.2.2.2.2.2.2.2.2.1
    have hc0 := hF.2.2.2.2.2.2.2.2.2.2.2.2.2.2.1
    have hc1 := hF.2.2.2.2.2.2.2.2.2.2.2.2.2.2.2.1
    have hc2 := hF.2.2.2.2.2.2.2.2.2.2.2.2.2.2.2.2.1
    have hc3 := hF.2.2.2.2.2.2.2.2.2.2.2.2.2.2.2.2.2.1
    have hc4 := hF.2.2.2.2.2.2.2.2.2.2.2.2.2.2.2.2.2.2.1
    have hc5 := hF.2.2.2.2.2.2.2.2.2.2.2.2.2.2.2.2.2.2.2.1
    have hc6 := hF.2.2.2.2.2.2.2.2.2.2.2.2.2.2.2.2.2.2.2.2.1
    have hc7 := hF.2.2.2.2.2.2.2.2.2.2.2.2.2.2.2.2.2.2.2.2.2
    have htr := hW.1
    have htl := hW.2.1
    have hy0 := hN.1
    have hy3 : (s6_cy u6) 3 = 0 := hy0 3 (by decide)
    have hy4 : (s6_cy u6) 4 = 0 := hy0 4 (by decide)
    have hy5 : (s6_cy u6) 5 = 0 := hy0 5 (by decide)
    have hy6 : (s6_cy u6) 6 = 0 := hy0 6 (by decide)
    obtain ⟨n1_, -, rfl⟩ := wb_of32 p1
    refine ⟨(wrI (W6 E x (((s6_g u6), (s6_xa u6), (s6_ra u6), (s6_caz u6), (s6_ca u6), (s6_pq u6), (s6_fl u6), (if okM (nI n1_) ((s6_cy u6) 5) then (if okM p2 (2 ^ (s6_cy u6) 4) then 0 else 2) else 1)), g6_1 u6, g6_2 u6, g6_3 u6, g6_4 u6, g6_5 u6, g6_6 u6, g6_7 u6, g6_8 u6, g6_9 u6, g6_10 u6)) (if okM (nI n1_) ((s6_cy u6) 5) then (if okM p2 (2 ^ (s6_cy u6) 4) then nI (((kpN (s6_cy u6) (s6_Fs u6) (s6_Ft u6) (s6_t u6) (2 ^ tn (nI n1_))).testBit (tn p2)).toNat) else (-1)) else (-1))), (wrI (W8n E k (((s6_g u6), (s6_xa u6), (s6_ra u6), (s6_caz u6), (s6_ca u6), (s6_pq u6), (s6_fl u6), (if okM (nI n1_) ((s6_cy u6) 5) then (if okM p2 (2 ^ (s6_cy u6) 4) then 0 else 2) else 1)), g6_1 u6, g6_2 u6, g6_3 u6, g6_4 u6, g6_5 u6, g6_6 u6, g6_7 u6, g6_8 u6, g6_9 u6, g6_10 u6) (((s8_q u8), 0, 1, (-1), (s8_rr u8), (s8_z u8), (s8_nb u8), (s8_wa u8)), g8_1 u8, g8_2 u8, g8_3 u8, g8_4 u8)) ((-1))), Ct.perm hp6.symm (Ct.frI (c_X6_keeps l E x (s6_xa u6) (s6_g u6) (s6_tr u6) (s6_fl u6) (s6_pl u6) (s6_cy u6) (s6_ca u6) (s6_Fs u6) (s6_Ft u6) (s6_hi u6) (s6_hm u6) (s6_t u6) (s6_dd u6) (s6_ink u6) (s6_mn u6) (nI n1_) p2 (by first | assumption | omega) (by first | assumption | omega) (by first | assumption | omega) (by first | assumption | omega) (by first | assumption | omega)) [0, 20, 26, 27, 36, 37, 38] rfl rfl rfl rfl), Ct.perm hp8.symm (Ct.frI (c_X8_keeps_n l E k (s8_th u8) (s8_tr8 u8) (s8_wh u8) (s8_rr u8) (s8_q u8) (upN (upN (upN (upN (s8_z u8) 6 (s6_fd u6)) 12 (s6_fl u6)) 19 (s6_ac u6)) 20 (s6_im u6)) (s8_nb u8) (s8_wa u8) (s8_wd u8) (s8_ev u8) (s8_al u8) (s8_wl u8) n1_ p2 ) [0] rfl rfl rfl rfl), fun r w h => ⟨_, h.2⟩, ?_⟩
    rintro r w r' w' ⟨rfl, rfl⟩ ⟨rfl, rfl⟩
    exact ⟨congrArg (fun z => some (Value.int z)) (if_neg (okM_0 hy5)), Or.inl ⟨(((s6_g u6), (s6_xa u6), (s6_ra u6), (s6_caz u6), (s6_ca u6), (s6_pq u6), (s6_fl u6), (if okM (nI n1_) ((s6_cy u6) 5) then (if okM p2 (2 ^ (s6_cy u6) 4) then 0 else 2) else 1)), g6_1 u6, g6_2 u6, g6_3 u6, g6_4 u6, g6_5 u6, g6_6 u6, g6_7 u6, g6_8 u6, g6_9 u6, g6_10 u6), (((s8_q u8), 0, 1, (-1), (s8_rr u8), (s8_z u8), (s8_nb u8), (s8_wa u8)), g8_1 u8, g8_2 u8, g8_3 u8, g8_4 u8), List.Perm.refl _, List.Perm.refl _, hF, hN, tw_of 1 ((if_neg (okM_0 hy5)).symm) (by decide) (by decide)⟩⟩
  · obtain ⟨u6, u8, hp6, hp8, hF, hG, hP, hW⟩ := hv
    have hfd := hF.1
    have hby := hF.2.1
    have hkw := hF.2.2.1
    have h40z := hF.2.2.2.1
    have h40 := hF.2.2.2.2.1
    have hink2 := hF.2.2.2.2.2.1
    have hwt := hF.2.2.2.2.2.2.1
    have hdy := hF.2.2.2.2.2.2.2.1
    have hds := hF.2.2.2.2.2.2.2.2.1
    have hink := hF.2.2.2.2.2.2.2.2.2.1
    have ht := hF.2.2.2.2.2.2.2.2.2.2.1
    have ho := hF.2.2.2.2.2.2.2.2.2.2.2.1
    have hac := hF.2.2.2.2.2.2.2.2.2.2.2.2.1
    have him := hF.2.2.2.2.2.2.2.2.2.2.2.2.2.1
    have hc0 := hF.2.2.2.2.2.2.2.2.2.2.2.2.2.2.1
    have hc1 := hF.2.2.2.2.2.2.2.2.2.2.2.2.2.2.2.1
    have hc2 := hF.2.2.2.2.2.2.2.2.2.2.2.2.2.2.2.2.1
    have hc3 := hF.2.2.2.2.2.2.2.2.2.2.2.2.2.2.2.2.2.1
    have hc4 := hF.2.2.2.2.2.2.2.2.2.2.2.2.2.2.2.2.2.2.1
    have hc5 := hF.2.2.2.2.2.2.2.2.2.2.2.2.2.2.2.2.2.2.2.1
    have hc6 := hF.2.2.2.2.2.2.2.2.2.2.2.2.2.2.2.2.2.2.2.2.1
    have hc7 := hF.2.2.2.2.2.2.2.2.2.2.2.2.2.2.2.2.2.2.2.2.2
    have htr := hW.1
    have htl := hW.2.1
    have hgb := g8_b hc4 hc5 hc7 hG
    have hfo := hgb.1
    have hon := hgb.2.1
    have htw := hgb.2.2.1
    have hFs := hgb.2.2.2.1
    have hFt := hgb.2.2.2.2.1
    have hik := hgb.2.2.2.2.2.1
    have hun := hgb.2.2.2.2.2.2.1
    have hdi := hgb.2.2.2.2.2.2.2.1
    have hd2 := hgb.2.2.2.2.2.2.2.2.1
    have hd3 := hgb.2.2.2.2.2.2.2.2.2.1
    have hkp := hgb.2.2.2.2.2.2.2.2.2.2.1
    have hm1 := hgb.2.2.2.2.2.2.2.2.2.2.2.1
    have hal_ := hgb.2.2.2.2.2.2.2.2.2.2.2.2
    have hal := hal_ (s6_t u6)
    have hz : ∀ c, (s6_cy u6) 5 ≤ c → (s6_ink u6) c = 0 := hP.1.2.1
    have hmz : ∀ c, (s6_cy u6) 5 ≤ c → (s6_mn u6) c = -1 := hP.1.2.2.1
    have hdd9 : (s6_dd u6) ≤ 999 := hP.1.2.2.2.2
    have hw8 := w8_e hG
    have h30 : ¬ (s6_cy u6) 3 = 0 := by omega
    by_cases hok : okM p1 ((s6_cy u6) 5)
    · obtain ⟨c0, hc0c, rfl⟩ := okM_nat hok (by omega)
      have hc31 : c0 < 2 ^ 31 := by omega
      by_cases hs0 : okM p2 (2 ^ (s6_cy u6) 4)
      · obtain ⟨d0, hd0, rfl⟩ := okM_nat hs0 (pow6 hc4)
        have hd31 : d0 < 2 ^ 31 := Nat.lt_trans hd0 (pow6 hc4)
        refine ⟨(wrI (W6 E x (((s6_g u6), (s6_xa u6), (s6_ra u6), (s6_caz u6), (s6_ca u6), (s6_pq u6), (s6_fl u6), (if okM (nI c0) ((s6_cy u6) 5) then (if okM (nI d0) (2 ^ (s6_cy u6) 4) then 0 else 2) else 1)), g6_1 u6, g6_2 u6, g6_3 u6, g6_4 u6, g6_5 u6, g6_6 u6, g6_7 u6, g6_8 u6, g6_9 u6, g6_10 u6)) (if okM (nI c0) ((s6_cy u6) 5) then (if okM (nI d0) (2 ^ (s6_cy u6) 4) then nI (((kpN (s6_cy u6) (s6_Fs u6) (s6_Ft u6) (s6_t u6) (2 ^ tn (nI c0))).testBit (tn (nI d0))).toNat) else (-1)) else (-1))), (wrI (W8c E k (((s6_g u6), (s6_xa u6), (s6_ra u6), (s6_caz u6), (s6_ca u6), (s6_pq u6), (s6_fl u6), (if okM (nI c0) ((s6_cy u6) 5) then (if okM (nI d0) (2 ^ (s6_cy u6) 4) then 0 else 2) else 1)), g6_1 u6, g6_2 u6, g6_3 u6, g6_4 u6, g6_5 u6, g6_6 u6, g6_7 u6, g6_8 u6, g6_9 u6, g6_10 u6) (((s8_q u8), 0, 0, (-1), (s8_rr u8), (s8_z u8), (s8_nb u8), (s8_wa u8)), ((s8_wd u8), (s8_ev u8), (s8_al u8), (s8_wl u8), (xF (s6_mn u6) (s6_ink u6) (s6_t u6) (s6_dd u6)), (s8_pp u8), (s8_pj8 u8), (s8_ke u8)), g8_2 u8, g8_3 u8, g8_4 u8)) (nI (((kpN (s6_cy u6) (s6_Fs u6) (s6_Ft u6) (s6_t u6) (2 ^ c0)).testBit d0).toNat))), Ct.perm hp6.symm (Ct.frI (c_X6_keeps l E x (s6_xa u6) (s6_g u6) (s6_tr u6) (s6_fl u6) (s6_pl u6) (s6_cy u6) (s6_ca u6) (s6_Fs u6) (s6_Ft u6) (s6_hi u6) (s6_hm u6) (s6_t u6) (s6_dd u6) (s6_ink u6) (s6_mn u6) (nI c0) (nI d0) (by first | assumption | omega) (by first | assumption | omega) (by first | assumption | omega) (by first | assumption | omega) (by first | assumption | omega)) [0, 20, 26, 27, 36, 37, 38] rfl rfl rfl rfl), Ct.perm hp8.symm (Ct.frI (c_X8_keeps l E k (s8_th u8) (s8_tr8 u8) (s8_wh u8) (s8_g8 u8) (s8_rr u8) (s8_q u8) (upN (upN (upN (upN (s8_z u8) 6 (s6_fd u6)) 12 (s6_fl u6)) 19 (s6_ac u6)) 20 (s6_im u6)) (s8_nb u8) (s8_wa u8) (s8_wd u8) (s8_ev u8) (s8_al u8) (s8_wl u8) (s6_cy u6) (s8_kp u8) (s8_nc u8) (s8_cb u8) (s8_gf u8) (s8_go_ u8) (s8_gt_ u8) (s8_xf u8) (s6_mn u6) (s6_ink u6) (s6_t u6) (s6_dd u6) (s6_Fs u6) (s6_Ft u6) c0 d0 (by first | assumption | omega) (by first | assumption | omega) (by first | assumption | omega) (by first | assumption | omega) (by first | assumption | omega) (by first | assumption | omega) (by first | assumption | omega) (by first | assumption | omega) (by first | assumption | omega) (by first | assumption | omega)) [0, 10, 13, 14, 15, 2, 3] rfl rfl rfl rfl), fun r w h => ⟨_, h.2⟩, ?_⟩
        rintro r w r' w' ⟨rfl, rfl⟩ ⟨rfl, rfl⟩
        exact ⟨congrArg (fun z => some (Value.int z)) ((if_pos hok).trans ((if_pos hs0).trans (by rw [tn_n hc31, tn_n hd31]))), Or.inr ⟨(((s6_g u6), (s6_xa u6), (s6_ra u6), (s6_caz u6), (s6_ca u6), (s6_pq u6), (s6_fl u6), (if okM (nI c0) ((s6_cy u6) 5) then (if okM (nI d0) (2 ^ (s6_cy u6) 4) then 0 else 2) else 1)), g6_1 u6, g6_2 u6, g6_3 u6, g6_4 u6, g6_5 u6, g6_6 u6, g6_7 u6, g6_8 u6, g6_9 u6, g6_10 u6), (((s8_q u8), 0, 0, (-1), (s8_rr u8), (s8_z u8), (s8_nb u8), (s8_wa u8)), ((s8_wd u8), (s8_ev u8), (s8_al u8), (s8_wl u8), (xF (s6_mn u6) (s6_ink u6) (s6_t u6) (s6_dd u6)), (s8_pp u8), (s8_pj8 u8), (s8_ke u8)), g8_2 u8, g8_3 u8, g8_4 u8), List.Perm.refl _, List.Perm.refl _, hF, hG, hP, tw_of 0 (((if_pos hok).trans (if_pos hs0)).symm) (by decide) (by decide)⟩⟩
      · refine ⟨(wrI (W6 E x (((s6_g u6), (s6_xa u6), (s6_ra u6), (s6_caz u6), (s6_ca u6), (s6_pq u6), (s6_fl u6), (if okM (nI c0) ((s6_cy u6) 5) then (if okM p2 (2 ^ (s6_cy u6) 4) then 0 else 2) else 1)), g6_1 u6, g6_2 u6, g6_3 u6, g6_4 u6, g6_5 u6, g6_6 u6, g6_7 u6, g6_8 u6, g6_9 u6, g6_10 u6)) (if okM (nI c0) ((s6_cy u6) 5) then (if okM p2 (2 ^ (s6_cy u6) 4) then nI (((kpN (s6_cy u6) (s6_Fs u6) (s6_Ft u6) (s6_t u6) (2 ^ tn (nI c0))).testBit (tn p2)).toNat) else (-1)) else (-1))), (wrI (W8c E k (((s6_g u6), (s6_xa u6), (s6_ra u6), (s6_caz u6), (s6_ca u6), (s6_pq u6), (s6_fl u6), (if okM (nI c0) ((s6_cy u6) 5) then (if okM p2 (2 ^ (s6_cy u6) 4) then 0 else 2) else 1)), g6_1 u6, g6_2 u6, g6_3 u6, g6_4 u6, g6_5 u6, g6_6 u6, g6_7 u6, g6_8 u6, g6_9 u6, g6_10 u6) (((s8_q u8), 0, 2, (-1), (s8_rr u8), (s8_z u8), (s8_nb u8), (s8_wa u8)), g8_1 u8, g8_2 u8, g8_3 u8, g8_4 u8)) ((-1))), Ct.perm hp6.symm (Ct.frI (c_X6_keeps l E x (s6_xa u6) (s6_g u6) (s6_tr u6) (s6_fl u6) (s6_pl u6) (s6_cy u6) (s6_ca u6) (s6_Fs u6) (s6_Ft u6) (s6_hi u6) (s6_hm u6) (s6_t u6) (s6_dd u6) (s6_ink u6) (s6_mn u6) (nI c0) p2 (by first | assumption | omega) (by first | assumption | omega) (by first | assumption | omega) (by first | assumption | omega) (by first | assumption | omega)) [0, 20, 26, 27, 36, 37, 38] rfl rfl rfl rfl), Ct.perm hp8.symm (Ct.frI (c_X8_keeps_no2 l E k (s8_th u8) (s8_tr8 u8) (s8_wh u8) (s8_g8 u8) (s8_rr u8) (s8_q u8) (upN (upN (upN (upN (s8_z u8) 6 (s6_fd u6)) 12 (s6_fl u6)) 19 (s6_ac u6)) 20 (s6_im u6)) (s8_nb u8) (s8_wa u8) (s8_wd u8) (s8_ev u8) (s8_al u8) (s8_wl u8) (s6_cy u6) (s8_kp u8) (s8_nc u8) (s8_cb u8) c0 p2 (by first | assumption | omega) (by first | assumption | omega) (hs0)) [0, 10] rfl rfl rfl rfl), fun r w h => ⟨_, h.2⟩, ?_⟩
        rintro r w r' w' ⟨rfl, rfl⟩ ⟨rfl, rfl⟩
        exact ⟨congrArg (fun z => some (Value.int z)) ((if_pos hok).trans (if_neg hs0)), Or.inr ⟨(((s6_g u6), (s6_xa u6), (s6_ra u6), (s6_caz u6), (s6_ca u6), (s6_pq u6), (s6_fl u6), (if okM (nI c0) ((s6_cy u6) 5) then (if okM p2 (2 ^ (s6_cy u6) 4) then 0 else 2) else 1)), g6_1 u6, g6_2 u6, g6_3 u6, g6_4 u6, g6_5 u6, g6_6 u6, g6_7 u6, g6_8 u6, g6_9 u6, g6_10 u6), (((s8_q u8), 0, 2, (-1), (s8_rr u8), (s8_z u8), (s8_nb u8), (s8_wa u8)), g8_1 u8, g8_2 u8, g8_3 u8, g8_4 u8), List.Perm.refl _, List.Perm.refl _, hF, hG, hP, tw_of 2 (((if_pos hok).trans (if_neg hs0)).symm) (by decide) (by decide)⟩⟩
    · obtain ⟨n1_, -, rfl⟩ := wb_of32 p1
      refine ⟨(wrI (W6 E x (((s6_g u6), (s6_xa u6), (s6_ra u6), (s6_caz u6), (s6_ca u6), (s6_pq u6), (s6_fl u6), (if okM (nI n1_) ((s6_cy u6) 5) then (if okM p2 (2 ^ (s6_cy u6) 4) then 0 else 2) else 1)), g6_1 u6, g6_2 u6, g6_3 u6, g6_4 u6, g6_5 u6, g6_6 u6, g6_7 u6, g6_8 u6, g6_9 u6, g6_10 u6)) (if okM (nI n1_) ((s6_cy u6) 5) then (if okM p2 (2 ^ (s6_cy u6) 4) then nI (((kpN (s6_cy u6) (s6_Fs u6) (s6_Ft u6) (s6_t u6) (2 ^ tn (nI n1_))).testBit (tn p2)).toNat) else (-1)) else (-1))), (wrI (W8c E k (((s6_g u6), (s6_xa u6), (s6_ra u6), (s6_caz u6), (s6_ca u6), (s6_pq u6), (s6_fl u6), (if okM (nI n1_) ((s6_cy u6) 5) then (if okM p2 (2 ^ (s6_cy u6) 4) then 0 else 2) else 1)), g6_1 u6, g6_2 u6, g6_3 u6, g6_4 u6, g6_5 u6, g6_6 u6, g6_7 u6, g6_8 u6, g6_9 u6, g6_10 u6) (((s8_q u8), 0, 1, (-1), (s8_rr u8), (s8_z u8), (s8_nb u8), (s8_wa u8)), g8_1 u8, g8_2 u8, g8_3 u8, g8_4 u8)) ((-1))), Ct.perm hp6.symm (Ct.frI (c_X6_keeps l E x (s6_xa u6) (s6_g u6) (s6_tr u6) (s6_fl u6) (s6_pl u6) (s6_cy u6) (s6_ca u6) (s6_Fs u6) (s6_Ft u6) (s6_hi u6) (s6_hm u6) (s6_t u6) (s6_dd u6) (s6_ink u6) (s6_mn u6) (nI n1_) p2 (by first | assumption | omega) (by first | assumption | omega) (by first | assumption | omega) (by first | assumption | omega) (by first | assumption | omega)) [0, 20, 26, 27, 36, 37, 38] rfl rfl rfl rfl), Ct.perm hp8.symm (Ct.frI (c_X8_keeps_no1 l E k (s8_th u8) (s8_tr8 u8) (s8_wh u8) (s8_g8 u8) (s8_rr u8) (s8_q u8) (upN (upN (upN (upN (s8_z u8) 6 (s6_fd u6)) 12 (s6_fl u6)) 19 (s6_ac u6)) 20 (s6_im u6)) (s8_nb u8) (s8_wa u8) (s8_wd u8) (s8_ev u8) (s8_al u8) (s8_wl u8) (s6_cy u6) (s8_kp u8) (s8_nc u8) (s8_cb u8) n1_ p2 (by first | assumption | omega)) [0, 10] rfl rfl rfl rfl), fun r w h => ⟨_, h.2⟩, ?_⟩
      rintro r w r' w' ⟨rfl, rfl⟩ ⟨rfl, rfl⟩
      exact ⟨congrArg (fun z => some (Value.int z)) (if_neg hok), Or.inr ⟨(((s6_g u6), (s6_xa u6), (s6_ra u6), (s6_caz u6), (s6_ca u6), (s6_pq u6), (s6_fl u6), (if okM (nI n1_) ((s6_cy u6) 5) then (if okM p2 (2 ^ (s6_cy u6) 4) then 0 else 2) else 1)), g6_1 u6, g6_2 u6, g6_3 u6, g6_4 u6, g6_5 u6, g6_6 u6, g6_7 u6, g6_8 u6, g6_9 u6, g6_10 u6), (((s8_q u8), 0, 1, (-1), (s8_rr u8), (s8_z u8), (s8_nb u8), (s8_wa u8)), g8_1 u8, g8_2 u8, g8_3 u8, g8_4 u8), List.Perm.refl _, List.Perm.refl _, hF, hG, hP, tw_of 1 ((if_neg hok).symm) (by decide) (by decide)⟩⟩
set_option maxRecDepth 100000 in
set_option maxHeartbeats 4000000 in
theorem op_may (l : Launch) (E : Et) (x k : Nat) (p1 : Int32) (p2 : Int32) : OpI E x k (fun w P => Ct l E yX6_may cX6_may 3 (some .int) 6 0 0 [.ref x, .int p1, .int p2] w P) (fun w P => Ct l E yX8_may cX8_may 3 (some .int) 5 0 0 [.ref k, .int p1, .int p2] w P) := by
  intro w6 w8 hv
  rcases hv with hv | hv
  · obtain ⟨u6, u8, hp6, hp8, hF, hN, hW⟩ := hv
    have hfd := hF.1
    have hby := hF.2.1
    have hkw := hF.2.2.1
    have h40z := hF.2.2.2.1
    have h40 := hF.2.2.2.2.1
    have hink2 := hF.2.2.2.2.2.1
    have hwt := hF.2.2.2.2.2.2.1
    have hdy := hF.2.2.2.2.2.2.2.1
    have hds := hF.2.2.2.2.2.2.2.2.1
    have hink := hF.2.2.2.2.2.2.2.2.2.1
    have ht := hF.2.2.2.2.2.2.2.2.2.2.1
    have ho := hF.2.2.2.2.2.2.2.2.2.2.2.1
    have hac := hF.2.2.2.2.2.2.2.2.2.2.2.2.1
    have him := hF.2.2.2.2.2.2.2.2.2.2.2.2.2.1
    have hc0 := hF.2.2.2.2.2.2.2.2.2.2.2.2.2.2.1
    have hc1 := hF.2.2.2.2.2.2.2.2.2.2.2.2.2.2.2.1
    have hc2 := hF.2.2.2.2.2.2.2.2.2.2.2.2.2.2.2.2.1
    have hc3 := hF.2.2.2.2.2.2.2.2.2.2.2.2.2.2.2.2.2.1
    have hc4 := hF.2.2.2.2.2.2.2.2.2.2.2.2.2.2.2.2.2.2.1
    have hc5 := hF.2.2.2.2.2.2.2.2.2.2.2.2.2.2.2.2.2.2.2.1
    have hc6 := hF.2.2.2.2.2.2.2.2.2.2.2.2.2.2.2.2.2.2.2.2.1
    have hc7 := hF.2.2.2.2.2.2.2.2.2.2.2.2.2.2.2.2.2.2.2.2.2
    have htr := hW.1
    have htl := hW.2.1
    have hy0 := hN.1
    have hy3 : (s6_cy u6) 3 = 0 := hy0 3 (by decide)
    have hy4 : (s6_cy u6) 4 = 0 := hy0 4 (by decide)
    have hy5 : (s6_cy u6) 5 = 0 := hy0 5 (by decide)
    have hy6 : (s6_cy u6) 6 = 0 := hy0 6 (by decide)
    refine ⟨(wrI (W6 E x (((s6_g u6), (s6_xa u6), (s6_ra u6), (s6_caz u6), (s6_ca u6), (s6_pq u6), (s6_fl u6), (if okM p1 ((s6_cy u6) 3) then (if okM p2 (2 ^ (s6_cy u6) 4) then 0 else 2) else 1)), g6_1 u6, g6_2 u6, g6_3 u6, g6_4 u6, g6_5 u6, g6_6 u6, g6_7 u6, g6_8 u6, g6_9 u6, g6_10 u6)) (if okM p1 ((s6_cy u6) 3) then (if okM p2 (2 ^ (s6_cy u6) 4) then nI (((kpN (s6_cy u6) (s6_Fs u6) (s6_Ft u6) (s6_t u6) (bdN (s6_ink u6) (s6_mn u6) p1 0)).testBit (tn p2)).toNat) else (-1)) else (-1))), (wrI (W8n E k (((s6_g u6), (s6_xa u6), (s6_ra u6), (s6_caz u6), (s6_ca u6), (s6_pq u6), (s6_fl u6), (if okM p1 ((s6_cy u6) 3) then (if okM p2 (2 ^ (s6_cy u6) 4) then 0 else 2) else 1)), g6_1 u6, g6_2 u6, g6_3 u6, g6_4 u6, g6_5 u6, g6_6 u6, g6_7 u6, g6_8 u6, g6_9 u6, g6_10 u6) (((s8_q u8), 0, 1, (-1), (s8_rr u8), (s8_z u8), (s8_nb u8), (s8_wa u8)), g8_1 u8, g8_2 u8, g8_3 u8, g8_4 u8)) ((-1))), Ct.perm hp6.symm (Ct.frI (c_X6_may l E x (s6_xa u6) (s6_g u6) (s6_tr u6) (s6_fl u6) (s6_pl u6) (s6_cy u6) (s6_ca u6) (s6_Fs u6) (s6_Ft u6) (s6_hi u6) (s6_hm u6) (s6_t u6) (s6_dd u6) (s6_ink u6) (s6_mn u6) p1 p2 (by first | assumption | omega) (by first | assumption | omega) (by first | assumption | omega) (by first | assumption | omega) (by first | assumption | omega)) [0, 20, 26, 27, 36, 37, 38] rfl rfl rfl rfl), Ct.perm hp8.symm (Ct.frI (c_X8_may_n l E k (s8_th u8) (s8_tr8 u8) (s8_wh u8) (s8_rr u8) (s8_q u8) (upN (upN (upN (upN (s8_z u8) 6 (s6_fd u6)) 12 (s6_fl u6)) 19 (s6_ac u6)) 20 (s6_im u6)) (s8_nb u8) (s8_wa u8) (s8_wd u8) (s8_ev u8) (s8_al u8) (s8_wl u8) p1 p2 ) [0] rfl rfl rfl rfl), fun r w h => ⟨_, h.2⟩, ?_⟩
    rintro r w r' w' ⟨rfl, rfl⟩ ⟨rfl, rfl⟩
    exact ⟨congrArg (fun z => some (Value.int z)) (if_neg (okM_0 hy3)), Or.inl ⟨(((s6_g u6), (s6_xa u6), (s6_ra u6), (s6_caz u6), (s6_ca u6), (s6_pq u6), (s6_fl u6), (if okM p1 ((s6_cy u6) 3) then (if okM p2 (2 ^ (s6_cy u6) 4) then 0 else 2) else 1)), g6_1 u6, g6_2 u6, g6_3 u6, g6_4 u6, g6_5 u6, g6_6 u6, g6_7 u6, g6_8 u6, g6_9 u6, g6_10 u6), (((s8_q u8), 0, 1, (-1), (s8_rr u8), (s8_z u8), (s8_nb u8), (s8_wa u8)), g8_1 u8, g8_2 u8, g8_3 u8, g8_4 u8), List.Perm.refl _, List.Perm.refl _, hF, hN, tw_of 1 ((if_neg (okM_0 hy3)).symm) (by decide) (by decide)⟩⟩
  · obtain ⟨u6, u8, hp6, hp8, hF, hG, hP, hW⟩ := hv
    have hfd := hF.1
    have hby := hF.2.1
    have hkw := hF.2.2.1
    have h40z := hF.2.2.2.1
    have h40 := hF.2.2.2.2.1
    have hink2 := hF.2.2.2.2.2.1
    have hwt := hF.2.2.2.2.2.2.1
    have hdy := hF.2.2.2.2.2.2.2.1
    have hds := hF.2.2.2.2.2.2.2.2.1
    have hink := hF.2.2.2.2.2.2.2.2.2.1
    have ht := hF.2.2.2.2.2.2.2.2.2.2.1
    have ho := hF.2.2.2.2.2.2.2.2.2.2.2.1
    have hac := hF.2.2.2.2.2.2.2.2.2.2.2.2.1
    have him := hF.2.2.2.2.2.2.2.2.2.2.2.2.2.1
    have hc0 := hF.2.2.2.2.2.2.2.2.2.2.2.2.2.2.1
    have hc1 := hF.2.2.2.2.2.2.2.2.2.2.2.2.2.2.2.1
    have hc2 := hF.2.2.2.2.2.2.2.2.2.2.2.2.2.2.2.2.1
    have hc3 := hF.2.2.2.2.2.2.2.2.2.2.2.2.2.2.2.2.2.1
    have hc4 := hF.2.2.2.2.2.2.2.2.2.2.2.2.2.2.2.2.2.2.1
    have hc5 := hF.2.2.2.2.2.2.2.2.2.2.2.2.2.2.2.2.2.2.2.1
    have hc6 := hF.2.2.2.2.2.2.2.2.2.2.2.2.2.2.2.2.2.2.2.2.1
    have hc7 := hF.2.2.2.2.2.2.2.2.2.2.2.2.2.2.2.2.2.2.2.2.2
    have htr := hW.1
    have htl := hW.2.1
    have hgb := g8_b hc4 hc5 hc7 hG
    have hfo := hgb.1
    have hon := hgb.2.1
    have htw := hgb.2.2.1
    have hFs := hgb.2.2.2.1
    have hFt := hgb.2.2.2.2.1
    have hik := hgb.2.2.2.2.2.1
    have hun := hgb.2.2.2.2.2.2.1
    have hdi := hgb.2.2.2.2.2.2.2.1
    have hd2 := hgb.2.2.2.2.2.2.2.2.1
    have hd3 := hgb.2.2.2.2.2.2.2.2.2.1
    have hkp := hgb.2.2.2.2.2.2.2.2.2.2.1
    have hm1 := hgb.2.2.2.2.2.2.2.2.2.2.2.1
    have hal_ := hgb.2.2.2.2.2.2.2.2.2.2.2.2
    have hal := hal_ (s6_t u6)
    have hz : ∀ c, (s6_cy u6) 5 ≤ c → (s6_ink u6) c = 0 := hP.1.2.1
    have hmz : ∀ c, (s6_cy u6) 5 ≤ c → (s6_mn u6) c = -1 := hP.1.2.2.1
    have hdd9 : (s6_dd u6) ≤ 999 := hP.1.2.2.2.2
    have hw8 := w8_e hG
    have h30 : ¬ (s6_cy u6) 3 = 0 := by omega
    by_cases hok : okM p1 ((s6_cy u6) 3)
    · by_cases hs0 : okM p2 (2 ^ (s6_cy u6) 4)
      · obtain ⟨d0, hd0, rfl⟩ := okM_nat hs0 (pow6 hc4)
        have hd31 : d0 < 2 ^ 31 := Nat.lt_trans hd0 (pow6 hc4)
        refine ⟨(wrI (W6 E x (((s6_g u6), (s6_xa u6), (s6_ra u6), (s6_caz u6), (s6_ca u6), (s6_pq u6), (s6_fl u6), (if okM p1 ((s6_cy u6) 3) then (if okM (nI d0) (2 ^ (s6_cy u6) 4) then 0 else 2) else 1)), g6_1 u6, g6_2 u6, g6_3 u6, g6_4 u6, g6_5 u6, g6_6 u6, g6_7 u6, g6_8 u6, g6_9 u6, g6_10 u6)) (if okM p1 ((s6_cy u6) 3) then (if okM (nI d0) (2 ^ (s6_cy u6) 4) then nI (((kpN (s6_cy u6) (s6_Fs u6) (s6_Ft u6) (s6_t u6) (bdN (s6_ink u6) (s6_mn u6) p1 0)).testBit (tn (nI d0))).toNat) else (-1)) else (-1))), (wrI (W8c E k (((s6_g u6), (s6_xa u6), (s6_ra u6), (s6_caz u6), (s6_ca u6), (s6_pq u6), (s6_fl u6), (if okM p1 ((s6_cy u6) 3) then (if okM (nI d0) (2 ^ (s6_cy u6) 4) then 0 else 2) else 1)), g6_1 u6, g6_2 u6, g6_3 u6, g6_4 u6, g6_5 u6, g6_6 u6, g6_7 u6, g6_8 u6, g6_9 u6, g6_10 u6) (((s8_q u8), 0, 0, (-1), (s8_rr u8), (s8_z u8), (s8_nb u8), (s8_wa u8)), ((s8_wd u8), (allS ((s6_cy u6) 4)), (s8_al u8), (s8_wl u8), (xF (s6_mn u6) (s6_ink u6) (s6_t u6) (s6_dd u6)), (s8_pp u8), (s8_pj8 u8), (lyF (s6_Fs u6) (s6_Ft u6) (s6_t u6) ((s6_cy u6) 4) (s8_ke u8) ((s6_cy u6) 5))), g8_2 u8, g8_3 u8, g8_4 u8)) (nI (((kpN (s6_cy u6) (s6_Fs u6) (s6_Ft u6) (s6_t u6) (bdN (s6_ink u6) (s6_mn u6) p1 0)).testBit d0).toNat))), Ct.perm hp6.symm (Ct.frI (c_X6_may l E x (s6_xa u6) (s6_g u6) (s6_tr u6) (s6_fl u6) (s6_pl u6) (s6_cy u6) (s6_ca u6) (s6_Fs u6) (s6_Ft u6) (s6_hi u6) (s6_hm u6) (s6_t u6) (s6_dd u6) (s6_ink u6) (s6_mn u6) p1 (nI d0) (by first | assumption | omega) (by first | assumption | omega) (by first | assumption | omega) (by first | assumption | omega) (by first | assumption | omega)) [0, 20, 26, 27, 36, 37, 38] rfl rfl rfl rfl), Ct.perm hp8.symm (Ct.frI (c_X8_may l E k (s8_th u8) (s8_tr8 u8) (s8_wh u8) (s8_g8 u8) (s8_rr u8) (s8_q u8) (upN (upN (upN (upN (s8_z u8) 6 (s6_fd u6)) 12 (s6_fl u6)) 19 (s6_ac u6)) 20 (s6_im u6)) (s8_nb u8) (s8_wa u8) (s8_wd u8) (s8_ev u8) (s8_al u8) (s8_wl u8) (s6_cy u6) (s8_kp u8) (s8_nc u8) (s8_cb u8) (s8_gf u8) (s8_go_ u8) (s8_gt_ u8) (s8_xf u8) (s6_mn u6) (s6_ink u6) (s6_t u6) (s6_dd u6) (s6_Fs u6) (s6_Ft u6) (s8_ke u8) p1 d0 (by first | assumption | omega) (by first | assumption | omega) (by first | assumption | omega) (by first | assumption | omega) (by first | assumption | omega) (by first | assumption | omega) (by first | assumption | omega) (by first | assumption | omega) (by first | assumption | omega) (by first | assumption | omega) (by first | assumption | omega)) [0, 10, 13, 14, 15, 2, 3, 6] rfl rfl rfl rfl), fun r w h => ⟨_, h.2⟩, ?_⟩
        rintro r w r' w' ⟨rfl, rfl⟩ ⟨rfl, rfl⟩
        exact ⟨congrArg (fun z => some (Value.int z)) ((if_pos hok).trans ((if_pos hs0).trans (by rw [tn_n hd31]))), Or.inr ⟨(((s6_g u6), (s6_xa u6), (s6_ra u6), (s6_caz u6), (s6_ca u6), (s6_pq u6), (s6_fl u6), (if okM p1 ((s6_cy u6) 3) then (if okM (nI d0) (2 ^ (s6_cy u6) 4) then 0 else 2) else 1)), g6_1 u6, g6_2 u6, g6_3 u6, g6_4 u6, g6_5 u6, g6_6 u6, g6_7 u6, g6_8 u6, g6_9 u6, g6_10 u6), (((s8_q u8), 0, 0, (-1), (s8_rr u8), (s8_z u8), (s8_nb u8), (s8_wa u8)), ((s8_wd u8), (allS ((s6_cy u6) 4)), (s8_al u8), (s8_wl u8), (xF (s6_mn u6) (s6_ink u6) (s6_t u6) (s6_dd u6)), (s8_pp u8), (s8_pj8 u8), (lyF (s6_Fs u6) (s6_Ft u6) (s6_t u6) ((s6_cy u6) 4) (s8_ke u8) ((s6_cy u6) 5))), g8_2 u8, g8_3 u8, g8_4 u8), List.Perm.refl _, List.Perm.refl _, hF, hG, hP, tw_of 0 (((if_pos hok).trans (if_pos hs0)).symm) (by decide) (by decide)⟩⟩
      · refine ⟨(wrI (W6 E x (((s6_g u6), (s6_xa u6), (s6_ra u6), (s6_caz u6), (s6_ca u6), (s6_pq u6), (s6_fl u6), (if okM p1 ((s6_cy u6) 3) then (if okM p2 (2 ^ (s6_cy u6) 4) then 0 else 2) else 1)), g6_1 u6, g6_2 u6, g6_3 u6, g6_4 u6, g6_5 u6, g6_6 u6, g6_7 u6, g6_8 u6, g6_9 u6, g6_10 u6)) (if okM p1 ((s6_cy u6) 3) then (if okM p2 (2 ^ (s6_cy u6) 4) then nI (((kpN (s6_cy u6) (s6_Fs u6) (s6_Ft u6) (s6_t u6) (bdN (s6_ink u6) (s6_mn u6) p1 0)).testBit (tn p2)).toNat) else (-1)) else (-1))), (wrI (W8c E k (((s6_g u6), (s6_xa u6), (s6_ra u6), (s6_caz u6), (s6_ca u6), (s6_pq u6), (s6_fl u6), (if okM p1 ((s6_cy u6) 3) then (if okM p2 (2 ^ (s6_cy u6) 4) then 0 else 2) else 1)), g6_1 u6, g6_2 u6, g6_3 u6, g6_4 u6, g6_5 u6, g6_6 u6, g6_7 u6, g6_8 u6, g6_9 u6, g6_10 u6) (((s8_q u8), 0, 2, (-1), (s8_rr u8), (s8_z u8), (s8_nb u8), (s8_wa u8)), g8_1 u8, g8_2 u8, g8_3 u8, g8_4 u8)) ((-1))), Ct.perm hp6.symm (Ct.frI (c_X6_may l E x (s6_xa u6) (s6_g u6) (s6_tr u6) (s6_fl u6) (s6_pl u6) (s6_cy u6) (s6_ca u6) (s6_Fs u6) (s6_Ft u6) (s6_hi u6) (s6_hm u6) (s6_t u6) (s6_dd u6) (s6_ink u6) (s6_mn u6) p1 p2 (by first | assumption | omega) (by first | assumption | omega) (by first | assumption | omega) (by first | assumption | omega) (by first | assumption | omega)) [0, 20, 26, 27, 36, 37, 38] rfl rfl rfl rfl), Ct.perm hp8.symm (Ct.frI (c_X8_may_no2 l E k (s8_th u8) (s8_tr8 u8) (s8_wh u8) (s8_g8 u8) (s8_rr u8) (s8_q u8) (upN (upN (upN (upN (s8_z u8) 6 (s6_fd u6)) 12 (s6_fl u6)) 19 (s6_ac u6)) 20 (s6_im u6)) (s8_nb u8) (s8_wa u8) (s8_wd u8) (s8_ev u8) (s8_al u8) (s8_wl u8) (s6_cy u6) (s8_kp u8) (s8_nc u8) (s8_cb u8) p1 p2 (by first | assumption | omega) (by first | assumption | omega) (hs0)) [0, 10] rfl rfl rfl rfl), fun r w h => ⟨_, h.2⟩, ?_⟩
        rintro r w r' w' ⟨rfl, rfl⟩ ⟨rfl, rfl⟩
        exact ⟨congrArg (fun z => some (Value.int z)) ((if_pos hok).trans (if_neg hs0)), Or.inr ⟨(((s6_g u6), (s6_xa u6), (s6_ra u6), (s6_caz u6), (s6_ca u6), (s6_pq u6), (s6_fl u6), (if okM p1 ((s6_cy u6) 3) then (if okM p2 (2 ^ (s6_cy u6) 4) then 0 else 2) else 1)), g6_1 u6, g6_2 u6, g6_3 u6, g6_4 u6, g6_5 u6, g6_6 u6, g6_7 u6, g6_8 u6, g6_9 u6, g6_10 u6), (((s8_q u8), 0, 2, (-1), (s8_rr u8), (s8_z u8), (s8_nb u8), (s8_wa u8)), g8_1 u8, g8_2 u8, g8_3 u8, g8_4 u8), List.Perm.refl _, List.Perm.refl _, hF, hG, hP, tw_of 2 (((if_pos hok).trans (if_neg hs0)).symm) (by decide) (by decide)⟩⟩
    · refine ⟨(wrI (W6 E x (((s6_g u6), (s6_xa u6), (s6_ra u6), (s6_caz u6), (s6_ca u6), (s6_pq u6), (s6_fl u6), (if okM p1 ((s6_cy u6) 3) then (if okM p2 (2 ^ (s6_cy u6) 4) then 0 else 2) else 1)), g6_1 u6, g6_2 u6, g6_3 u6, g6_4 u6, g6_5 u6, g6_6 u6, g6_7 u6, g6_8 u6, g6_9 u6, g6_10 u6)) (if okM p1 ((s6_cy u6) 3) then (if okM p2 (2 ^ (s6_cy u6) 4) then nI (((kpN (s6_cy u6) (s6_Fs u6) (s6_Ft u6) (s6_t u6) (bdN (s6_ink u6) (s6_mn u6) p1 0)).testBit (tn p2)).toNat) else (-1)) else (-1))), (wrI (W8c E k (((s6_g u6), (s6_xa u6), (s6_ra u6), (s6_caz u6), (s6_ca u6), (s6_pq u6), (s6_fl u6), (if okM p1 ((s6_cy u6) 3) then (if okM p2 (2 ^ (s6_cy u6) 4) then 0 else 2) else 1)), g6_1 u6, g6_2 u6, g6_3 u6, g6_4 u6, g6_5 u6, g6_6 u6, g6_7 u6, g6_8 u6, g6_9 u6, g6_10 u6) (((s8_q u8), 0, 1, (-1), (s8_rr u8), (s8_z u8), (s8_nb u8), (s8_wa u8)), g8_1 u8, g8_2 u8, g8_3 u8, g8_4 u8)) ((-1))), Ct.perm hp6.symm (Ct.frI (c_X6_may l E x (s6_xa u6) (s6_g u6) (s6_tr u6) (s6_fl u6) (s6_pl u6) (s6_cy u6) (s6_ca u6) (s6_Fs u6) (s6_Ft u6) (s6_hi u6) (s6_hm u6) (s6_t u6) (s6_dd u6) (s6_ink u6) (s6_mn u6) p1 p2 (by first | assumption | omega) (by first | assumption | omega) (by first | assumption | omega) (by first | assumption | omega) (by first | assumption | omega)) [0, 20, 26, 27, 36, 37, 38] rfl rfl rfl rfl), Ct.perm hp8.symm (Ct.frI (c_X8_may_no1 l E k (s8_th u8) (s8_tr8 u8) (s8_wh u8) (s8_g8 u8) (s8_rr u8) (s8_q u8) (upN (upN (upN (upN (s8_z u8) 6 (s6_fd u6)) 12 (s6_fl u6)) 19 (s6_ac u6)) 20 (s6_im u6)) (s8_nb u8) (s8_wa u8) (s8_wd u8) (s8_ev u8) (s8_al u8) (s8_wl u8) (s6_cy u6) (s8_kp u8) (s8_nc u8) (s8_cb u8) p1 p2 (by first | assumption | omega)) [0, 10] rfl rfl rfl rfl), fun r w h => ⟨_, h.2⟩, ?_⟩
      rintro r w r' w' ⟨rfl, rfl⟩ ⟨rfl, rfl⟩
      exact ⟨congrArg (fun z => some (Value.int z)) (if_neg hok), Or.inr ⟨(((s6_g u6), (s6_xa u6), (s6_ra u6), (s6_caz u6), (s6_ca u6), (s6_pq u6), (s6_fl u6), (if okM p1 ((s6_cy u6) 3) then (if okM p2 (2 ^ (s6_cy u6) 4) then 0 else 2) else 1)), g6_1 u6, g6_2 u6, g6_3 u6, g6_4 u6, g6_5 u6, g6_6 u6, g6_7 u6, g6_8 u6, g6_9 u6, g6_10 u6), (((s8_q u8), 0, 1, (-1), (s8_rr u8), (s8_z u8), (s8_nb u8), (s8_wa u8)), g8_1 u8, g8_2 u8, g8_3 u8, g8_4 u8), List.Perm.refl _, List.Perm.refl _, hF, hG, hP, tw_of 1 ((if_neg hok).symm) (by decide) (by decide)⟩⟩
set_option maxRecDepth 100000 in
set_option maxHeartbeats 4000000 in
theorem op_mayIn (l : Launch) (E : Et) (x k : Nat) (p1 : Int32) (p2 : Int32) : OpI E x k (fun w P => Ct l E yX6_mayIn cX6_mayIn 4 (some .int) 6 0 0 [.ref x, .int p1, .int p2] w P) (fun w P => Ct l E yX8_mayIn cX8_mayIn 4 (some .int) 5 0 0 [.ref k, .int p1, .int p2] w P) := by
  intro w6 w8 hv
  rcases hv with hv | hv
  · obtain ⟨u6, u8, hp6, hp8, hF, hN, hW⟩ := hv
    have hfd := hF.1
    have hby := hF.2.1
    have hkw := hF.2.2.1
    have h40z := hF.2.2.2.1
    have h40 := hF.2.2.2.2.1
    have hink2 := hF.2.2.2.2.2.1
    have hwt := hF.2.2.2.2.2.2.1
    have hdy := hF.2.2.2.2.2.2.2.1
    have hds := hF.2.2.2.2.2.2.2.2.1
    have hink := hF.2.2.2.2.2.2.2.2.2.1
    have ht := hF.2.2.2.2.2.2.2.2.2.2.1
    have ho := hF.2.2.2.2.2.2.2.2.2.2.2.1
    have hac := hF.2.2.2.2.2.2.2.2.2.2.2.2.1
    have him := hF.2.2.2.2.2.2.2.2.2.2.2.2.2.1
    have hc0 := hF.2.2.2.2.2.2.2.2.2.2.2.2.2.2.1
    have hc1 := hF.2.2.2.2.2.2.2.2.2.2.2.2.2.2.2.1
    have hc2 := hF.2.2.2.2.2.2.2.2.2.2.2.2.2.2.2.2.1
    have hc3 := hF.2.2.2.2.2.2.2.2.2.2.2.2.2.2.2.2.2.1
    have hc4 := hF.2.2.2.2.2.2.2.2.2.2.2.2.2.2.2.2.2.2.1
    have hc5 := hF.2.2.2.2.2.2.2.2.2.2.2.2.2.2.2.2.2.2.2.1
    have hc6 := hF.2.2.2.2.2.2.2.2.2.2.2.2.2.2.2.2.2.2.2.2.1
    have hc7 := hF.2.2.2.2.2.2.2.2.2.2.2.2.2.2.2.2.2.2.2.2.2
    have htr := hW.1
    have htl := hW.2.1
    have hy0 := hN.1
    have hy3 : (s6_cy u6) 3 = 0 := hy0 3 (by decide)
    have hy4 : (s6_cy u6) 4 = 0 := hy0 4 (by decide)
    have hy5 : (s6_cy u6) 5 = 0 := hy0 5 (by decide)
    have hy6 : (s6_cy u6) 6 = 0 := hy0 6 (by decide)
    refine ⟨(wrI (W6 E x (((s6_g u6), (s6_xa u6), (s6_ra u6), (s6_caz u6), (s6_ca u6), (s6_pq u6), (s6_fl u6), (if okM p1 ((s6_cy u6) 3) then (if okM p2 (2 ^ (s6_cy u6) 4) then 0 else 2) else 1)), g6_1 u6, g6_2 u6, g6_3 u6, g6_4 u6, g6_5 u6, g6_6 u6, g6_7 u6, g6_8 u6, g6_9 u6, g6_10 u6)) (if okM p1 ((s6_cy u6) 3) then (if okM p2 (2 ^ (s6_cy u6) 4) then nI ((fst_ (fun n => (kpN (s6_cy u6) (s6_Fs u6) (s6_Ft u6) (s6_t u6) (bdN (s6_ink u6) (s6_mn u6) p1 n)).testBit (tn p2)) 60 0).getD 60) else (-1)) else (-1))), (wrI (W8n E k (((s6_g u6), (s6_xa u6), (s6_ra u6), (s6_caz u6), (s6_ca u6), (s6_pq u6), (s6_fl u6), (if okM p1 ((s6_cy u6) 3) then (if okM p2 (2 ^ (s6_cy u6) 4) then 0 else 2) else 1)), g6_1 u6, g6_2 u6, g6_3 u6, g6_4 u6, g6_5 u6, g6_6 u6, g6_7 u6, g6_8 u6, g6_9 u6, g6_10 u6) (((s8_q u8), 0, 1, (-1), (s8_rr u8), (s8_z u8), (s8_nb u8), (s8_wa u8)), g8_1 u8, g8_2 u8, g8_3 u8, g8_4 u8)) ((-1))), Ct.perm hp6.symm (Ct.frI (c_X6_mayIn l E x (s6_xa u6) (s6_g u6) (s6_tr u6) (s6_fl u6) (s6_pl u6) (s6_cy u6) (s6_ca u6) (s6_Fs u6) (s6_Ft u6) (s6_hi u6) (s6_hm u6) (s6_t u6) (s6_dd u6) (s6_ink u6) (s6_mn u6) p1 p2 (by first | assumption | omega) (by first | assumption | omega) (by first | assumption | omega) (by first | assumption | omega) (by first | assumption | omega)) [0, 20, 26, 27, 36, 37, 38] rfl rfl rfl rfl), Ct.perm hp8.symm (Ct.frI (c_X8_mayIn_n l E k (s8_th u8) (s8_tr8 u8) (s8_wh u8) (s8_rr u8) (s8_q u8) (upN (upN (upN (upN (s8_z u8) 6 (s6_fd u6)) 12 (s6_fl u6)) 19 (s6_ac u6)) 20 (s6_im u6)) (s8_nb u8) (s8_wa u8) (s8_wd u8) (s8_ev u8) (s8_al u8) (s8_wl u8) p1 p2 ) [0] rfl rfl rfl rfl), fun r w h => ⟨_, h.2⟩, ?_⟩
    rintro r w r' w' ⟨rfl, rfl⟩ ⟨rfl, rfl⟩
    exact ⟨congrArg (fun z => some (Value.int z)) (if_neg (okM_0 hy3)), Or.inl ⟨(((s6_g u6), (s6_xa u6), (s6_ra u6), (s6_caz u6), (s6_ca u6), (s6_pq u6), (s6_fl u6), (if okM p1 ((s6_cy u6) 3) then (if okM p2 (2 ^ (s6_cy u6) 4) then 0 else 2) else 1)), g6_1 u6, g6_2 u6, g6_3 u6, g6_4 u6, g6_5 u6, g6_6 u6, g6_7 u6, g6_8 u6, g6_9 u6, g6_10 u6), (((s8_q u8), 0, 1, (-1), (s8_rr u8), (s8_z u8), (s8_nb u8), (s8_wa u8)), g8_1 u8, g8_2 u8, g8_3 u8, g8_4 u8), List.Perm.refl _, List.Perm.refl _, hF, hN, tw_of 1 ((if_neg (okM_0 hy3)).symm) (by decide) (by decide)⟩⟩
  · obtain ⟨u6, u8, hp6, hp8, hF, hG, hP, hW⟩ := hv
    have hfd := hF.1
    have hby := hF.2.1
    have hkw := hF.2.2.1
    have h40z := hF.2.2.2.1
    have h40 := hF.2.2.2.2.1
    have hink2 := hF.2.2.2.2.2.1
    have hwt := hF.2.2.2.2.2.2.1
    have hdy := hF.2.2.2.2.2.2.2.1
    have hds := hF.2.2.2.2.2.2.2.2.1
    have hink := hF.2.2.2.2.2.2.2.2.2.1
    have ht := hF.2.2.2.2.2.2.2.2.2.2.1
    have ho := hF.2.2.2.2.2.2.2.2.2.2.2.1
    have hac := hF.2.2.2.2.2.2.2.2.2.2.2.2.1
    have him := hF.2.2.2.2.2.2.2.2.2.2.2.2.2.1
    have hc0 := hF.2.2.2.2.2.2.2.2.2.2.2.2.2.2.1
    have hc1 := hF.2.2.2.2.2.2.2.2.2.2.2.2.2.2.2.1
    have hc2 := hF.2.2.2.2.2.2.2.2.2.2.2.2.2.2.2.2.1
    have hc3 := hF.2.2.2.2.2.2.2.2.2.2.2.2.2.2.2.2.2.1
    have hc4 := hF.2.2.2.2.2.2.2.2.2.2.2.2.2.2.2.2.2.2.1
    have hc5 := hF.2.2.2.2.2.2.2.2.2.2.2.2.2.2.2.2.2.2.2.1
    have hc6 := hF.2.2.2.2.2.2.2.2.2.2.2.2.2.2.2.2.2.2.2.2.1
    have hc7 := hF.2.2.2.2.2.2.2.2.2.2.2.2.2.2.2.2.2.2.2.2.2
    have htr := hW.1
    have htl := hW.2.1
    have hgb := g8_b hc4 hc5 hc7 hG
    have hfo := hgb.1
    have hon := hgb.2.1
    have htw := hgb.2.2.1
    have hFs := hgb.2.2.2.1
    have hFt := hgb.2.2.2.2.1
    have hik := hgb.2.2.2.2.2.1
    have hun := hgb.2.2.2.2.2.2.1
    have hdi := hgb.2.2.2.2.2.2.2.1
    have hd2 := hgb.2.2.2.2.2.2.2.2.1
    have hd3 := hgb.2.2.2.2.2.2.2.2.2.1
    have hkp := hgb.2.2.2.2.2.2.2.2.2.2.1
    have hm1 := hgb.2.2.2.2.2.2.2.2.2.2.2.1
    have hal_ := hgb.2.2.2.2.2.2.2.2.2.2.2.2
    have hal := hal_ (s6_t u6)
    have hz : ∀ c, (s6_cy u6) 5 ≤ c → (s6_ink u6) c = 0 := hP.1.2.1
    have hmz : ∀ c, (s6_cy u6) 5 ≤ c → (s6_mn u6) c = -1 := hP.1.2.2.1
    have hdd9 : (s6_dd u6) ≤ 999 := hP.1.2.2.2.2
    have hw8 := w8_e hG
    have h30 : ¬ (s6_cy u6) 3 = 0 := by omega
    by_cases hok : okM p1 ((s6_cy u6) 3)
    · by_cases hs0 : okM p2 (2 ^ (s6_cy u6) 4)
      · obtain ⟨d0, hd0, rfl⟩ := okM_nat hs0 (pow6 hc4)
        have hd31 : d0 < 2 ^ 31 := Nat.lt_trans hd0 (pow6 hc4)
        refine ⟨(wrI (W6 E x (((s6_g u6), (s6_xa u6), (s6_ra u6), (s6_caz u6), (s6_ca u6), (s6_pq u6), (s6_fl u6), (if okM p1 ((s6_cy u6) 3) then (if okM (nI d0) (2 ^ (s6_cy u6) 4) then 0 else 2) else 1)), g6_1 u6, g6_2 u6, g6_3 u6, g6_4 u6, g6_5 u6, g6_6 u6, g6_7 u6, g6_8 u6, g6_9 u6, g6_10 u6)) (if okM p1 ((s6_cy u6) 3) then (if okM (nI d0) (2 ^ (s6_cy u6) 4) then nI ((fst_ (fun n => (kpN (s6_cy u6) (s6_Fs u6) (s6_Ft u6) (s6_t u6) (bdN (s6_ink u6) (s6_mn u6) p1 n)).testBit (tn (nI d0))) 60 0).getD 60) else (-1)) else (-1))), (wrI (W8c E k (((s6_g u6), (s6_xa u6), (s6_ra u6), (s6_caz u6), (s6_ca u6), (s6_pq u6), (s6_fl u6), (if okM p1 ((s6_cy u6) 3) then (if okM (nI d0) (2 ^ (s6_cy u6) 4) then 0 else 2) else 1)), g6_1 u6, g6_2 u6, g6_3 u6, g6_4 u6, g6_5 u6, g6_6 u6, g6_7 u6, g6_8 u6, g6_9 u6, g6_10 u6) (((s8_q u8), 0, 0, (-1), (s8_rr u8), (s8_z u8), (s8_nb u8), (s8_wa u8)), ((s8_wd u8), (allS ((s6_cy u6) 4)), (s8_al u8), (s8_wl u8), (xF (s6_mn u6) (fun c => (s6_ink u6) c - (fst_ (fun n => (kpN (s6_cy u6) (s6_Fs u6) (s6_Ft u6) (s6_t u6) (bdN (s6_ink u6) (s6_mn u6) p1 n)).testBit d0) 60 0).getD 60) (s6_t u6) ((s6_dd u6) + (fst_ (fun n => (kpN (s6_cy u6) (s6_Fs u6) (s6_Ft u6) (s6_t u6) (bdN (s6_ink u6) (s6_mn u6) p1 n)).testBit d0) 60 0).getD 60)), (s8_pp u8), (s8_pj8 u8), (lyF (s6_Fs u6) (s6_Ft u6) (s6_t u6) ((s6_cy u6) 4) (s8_ke u8) ((s6_cy u6) 5))), g8_2 u8, g8_3 u8, g8_4 u8)) (nI ((fst_ (fun n => (kpN (s6_cy u6) (s6_Fs u6) (s6_Ft u6) (s6_t u6) (bdN (s6_ink u6) (s6_mn u6) p1 n)).testBit d0) 60 0).getD 60))), Ct.perm hp6.symm (Ct.frI (c_X6_mayIn l E x (s6_xa u6) (s6_g u6) (s6_tr u6) (s6_fl u6) (s6_pl u6) (s6_cy u6) (s6_ca u6) (s6_Fs u6) (s6_Ft u6) (s6_hi u6) (s6_hm u6) (s6_t u6) (s6_dd u6) (s6_ink u6) (s6_mn u6) p1 (nI d0) (by first | assumption | omega) (by first | assumption | omega) (by first | assumption | omega) (by first | assumption | omega) (by first | assumption | omega)) [0, 20, 26, 27, 36, 37, 38] rfl rfl rfl rfl), Ct.perm hp8.symm (Ct.frI (c_X8_mayIn l E k (s8_th u8) (s8_tr8 u8) (s8_wh u8) (s8_g8 u8) (s8_rr u8) (s8_q u8) (upN (upN (upN (upN (s8_z u8) 6 (s6_fd u6)) 12 (s6_fl u6)) 19 (s6_ac u6)) 20 (s6_im u6)) (s8_nb u8) (s8_wa u8) (s8_wd u8) (s8_ev u8) (s8_al u8) (s8_wl u8) (s6_cy u6) (s8_kp u8) (s8_nc u8) (s8_cb u8) (s8_gf u8) (s8_go_ u8) (s8_gt_ u8) (s8_xf u8) (s6_mn u6) (s6_ink u6) (s6_t u6) (s6_dd u6) (s6_Fs u6) (s6_Ft u6) (s8_ke u8) p1 d0 (by first | assumption | omega) (by first | assumption | omega) (by first | assumption | omega) (by first | assumption | omega) (by first | assumption | omega) (by first | assumption | omega) (by first | assumption | omega) (by first | assumption | omega) (by first | assumption | omega) (by first | assumption | omega) (by first | assumption | omega)) [0, 10, 13, 14, 15, 2, 3, 6] rfl rfl rfl rfl), fun r w h => ⟨_, h.2⟩, ?_⟩
        rintro r w r' w' ⟨rfl, rfl⟩ ⟨rfl, rfl⟩
        exact ⟨congrArg (fun z => some (Value.int z)) ((if_pos hok).trans ((if_pos hs0).trans (by rw [tn_n hd31]))), Or.inr ⟨(((s6_g u6), (s6_xa u6), (s6_ra u6), (s6_caz u6), (s6_ca u6), (s6_pq u6), (s6_fl u6), (if okM p1 ((s6_cy u6) 3) then (if okM (nI d0) (2 ^ (s6_cy u6) 4) then 0 else 2) else 1)), g6_1 u6, g6_2 u6, g6_3 u6, g6_4 u6, g6_5 u6, g6_6 u6, g6_7 u6, g6_8 u6, g6_9 u6, g6_10 u6), (((s8_q u8), 0, 0, (-1), (s8_rr u8), (s8_z u8), (s8_nb u8), (s8_wa u8)), ((s8_wd u8), (allS ((s6_cy u6) 4)), (s8_al u8), (s8_wl u8), (xF (s6_mn u6) (fun c => (s6_ink u6) c - (fst_ (fun n => (kpN (s6_cy u6) (s6_Fs u6) (s6_Ft u6) (s6_t u6) (bdN (s6_ink u6) (s6_mn u6) p1 n)).testBit d0) 60 0).getD 60) (s6_t u6) ((s6_dd u6) + (fst_ (fun n => (kpN (s6_cy u6) (s6_Fs u6) (s6_Ft u6) (s6_t u6) (bdN (s6_ink u6) (s6_mn u6) p1 n)).testBit d0) 60 0).getD 60)), (s8_pp u8), (s8_pj8 u8), (lyF (s6_Fs u6) (s6_Ft u6) (s6_t u6) ((s6_cy u6) 4) (s8_ke u8) ((s6_cy u6) 5))), g8_2 u8, g8_3 u8, g8_4 u8), List.Perm.refl _, List.Perm.refl _, hF, hG, hP, tw_of 0 (((if_pos hok).trans (if_pos hs0)).symm) (by decide) (by decide)⟩⟩
      · refine ⟨(wrI (W6 E x (((s6_g u6), (s6_xa u6), (s6_ra u6), (s6_caz u6), (s6_ca u6), (s6_pq u6), (s6_fl u6), (if okM p1 ((s6_cy u6) 3) then (if okM p2 (2 ^ (s6_cy u6) 4) then 0 else 2) else 1)), g6_1 u6, g6_2 u6, g6_3 u6, g6_4 u6, g6_5 u6, g6_6 u6, g6_7 u6, g6_8 u6, g6_9 u6, g6_10 u6)) (if okM p1 ((s6_cy u6) 3) then (if okM p2 (2 ^ (s6_cy u6) 4) then nI ((fst_ (fun n => (kpN (s6_cy u6) (s6_Fs u6) (s6_Ft u6) (s6_t u6) (bdN (s6_ink u6) (s6_mn u6) p1 n)).testBit (tn p2)) 60 0).getD 60) else (-1)) else (-1))), (wrI (W8c E k (((s6_g u6), (s6_xa u6), (s6_ra u6), (s6_caz u6), (s6_ca u6), (s6_pq u6), (s6_fl u6), (if okM p1 ((s6_cy u6) 3) then (if okM p2 (2 ^ (s6_cy u6) 4) then 0 else 2) else 1)), g6_1 u6, g6_2 u6, g6_3 u6, g6_4 u6, g6_5 u6, g6_6 u6, g6_7 u6, g6_8 u6, g6_9 u6, g6_10 u6) (((s8_q u8), 0, 2, (-1), (s8_rr u8), (s8_z u8), (s8_nb u8), (s8_wa u8)), g8_1 u8, g8_2 u8, g8_3 u8, g8_4 u8)) ((-1))), Ct.perm hp6.symm (Ct.frI (c_X6_mayIn l E x (s6_xa u6) (s6_g u6) (s6_tr u6) (s6_fl u6) (s6_pl u6) (s6_cy u6) (s6_ca u6) (s6_Fs u6) (s6_Ft u6) (s6_hi u6) (s6_hm u6) (s6_t u6) (s6_dd u6) (s6_ink u6) (s6_mn u6) p1 p2 (by first | assumption | omega) (by first | assumption | omega) (by first | assumption | omega) (by first | assumption | omega) (by first | assumption | omega)) [0, 20, 26, 27, 36, 37, 38] rfl rfl rfl rfl), Ct.perm hp8.symm (Ct.frI (c_X8_mayIn_no2 l E k (s8_th u8) (s8_tr8 u8) (s8_wh u8) (s8_g8 u8) (s8_rr u8) (s8_q u8) (upN (upN (upN (upN (s8_z u8) 6 (s6_fd u6)) 12 (s6_fl u6)) 19 (s6_ac u6)) 20 (s6_im u6)) (s8_nb u8) (s8_wa u8) (s8_wd u8) (s8_ev u8) (s8_al u8) (s8_wl u8) (s6_cy u6) (s8_kp u8) (s8_nc u8) (s8_cb u8) p1 p2 (by first | assumption | omega) (by first | assumption | omega) (hs0)) [0, 10] rfl rfl rfl rfl), fun r w h => ⟨_, h.2⟩, ?_⟩
        rintro r w r' w' ⟨rfl, rfl⟩ ⟨rfl, rfl⟩
        exact ⟨congrArg (fun z => some (Value.int z)) ((if_pos hok).trans (if_neg hs0)), Or.inr ⟨(((s6_g u6), (s6_xa u6), (s6_ra u6), (s6_caz u6), (s6_ca u6), (s6_pq u6), (s6_fl u6), (if okM p1 ((s6_cy u6) 3) then (if okM p2 (2 ^ (s6_cy u6) 4) then 0 else 2) else 1)), g6_1 u6, g6_2 u6, g6_3 u6, g6_4 u6, g6_5 u6, g6_6 u6, g6_7 u6, g6_8 u6, g6_9 u6, g6_10 u6), (((s8_q u8), 0, 2, (-1), (s8_rr u8), (s8_z u8), (s8_nb u8), (s8_wa u8)), g8_1 u8, g8_2 u8, g8_3 u8, g8_4 u8), List.Perm.refl _, List.Perm.refl _, hF, hG, hP, tw_of 2 (((if_pos hok).trans (if_neg hs0)).symm) (by decide) (by decide)⟩⟩
    · refine ⟨(wrI (W6 E x (((s6_g u6), (s6_xa u6), (s6_ra u6), (s6_caz u6), (s6_ca u6), (s6_pq u6), (s6_fl u6), (if okM p1 ((s6_cy u6) 3) then (if okM p2 (2 ^ (s6_cy u6) 4) then 0 else 2) else 1)), g6_1 u6, g6_2 u6, g6_3 u6, g6_4 u6, g6_5 u6, g6_6 u6, g6_7 u6, g6_8 u6, g6_9 u6, g6_10 u6)) (if okM p1 ((s6_cy u6) 3) then (if okM p2 (2 ^ (s6_cy u6) 4) then nI ((fst_ (fun n => (kpN (s6_cy u6) (s6_Fs u6) (s6_Ft u6) (s6_t u6) (bdN (s6_ink u6) (s6_mn u6) p1 n)).testBit (tn p2)) 60 0).getD 60) else (-1)) else (-1))), (wrI (W8c E k (((s6_g u6), (s6_xa u6), (s6_ra u6), (s6_caz u6), (s6_ca u6), (s6_pq u6), (s6_fl u6), (if okM p1 ((s6_cy u6) 3) then (if okM p2 (2 ^ (s6_cy u6) 4) then 0 else 2) else 1)), g6_1 u6, g6_2 u6, g6_3 u6, g6_4 u6, g6_5 u6, g6_6 u6, g6_7 u6, g6_8 u6, g6_9 u6, g6_10 u6) (((s8_q u8), 0, 1, (-1), (s8_rr u8), (s8_z u8), (s8_nb u8), (s8_wa u8)), g8_1 u8, g8_2 u8, g8_3 u8, g8_4 u8)) ((-1))), Ct.perm hp6.symm (Ct.frI (c_X6_mayIn l E x (s6_xa u6) (s6_g u6) (s6_tr u6) (s6_fl u6) (s6_pl u6) (s6_cy u6) (s6_ca u6) (s6_Fs u6) (s6_Ft u6) (s6_hi u6) (s6_hm u6) (s6_t u6) (s6_dd u6) (s6_ink u6) (s6_mn u6) p1 p2 (by first | assumption | omega) (by first | assumption | omega) (by first | assumption | omega) (by first | assumption | omega) (by first | assumption | omega)) [0, 20, 26, 27, 36, 37, 38] rfl rfl rfl rfl), Ct.perm hp8.symm (Ct.frI (c_X8_mayIn_no1 l E k (s8_th u8) (s8_tr8 u8) (s8_wh u8) (s8_g8 u8) (s8_rr u8) (s8_q u8) (upN (upN (upN (upN (s8_z u8) 6 (s6_fd u6)) 12 (s6_fl u6)) 19 (s6_ac u6)) 20 (s6_im u6)) (s8_nb u8) (s8_wa u8) (s8_wd u8) (s8_ev u8) (s8_al u8) (s8_wl u8) (s6_cy u6) (s8_kp u8) (s8_nc u8) (s8_cb u8) p1 p2 (by first | assumption | omega)) [0, 10] rfl rfl rfl rfl), fun r w h => ⟨_, h.2⟩, ?_⟩
      rintro r w r' w' ⟨rfl, rfl⟩ ⟨rfl, rfl⟩
      exact ⟨congrArg (fun z => some (Value.int z)) (if_neg hok), Or.inr ⟨(((s6_g u6), (s6_xa u6), (s6_ra u6), (s6_caz u6), (s6_ca u6), (s6_pq u6), (s6_fl u6), (if okM p1 ((s6_cy u6) 3) then (if okM p2 (2 ^ (s6_cy u6) 4) then 0 else 2) else 1)), g6_1 u6, g6_2 u6, g6_3 u6, g6_4 u6, g6_5 u6, g6_6 u6, g6_7 u6, g6_8 u6, g6_9 u6, g6_10 u6), (((s8_q u8), 0, 1, (-1), (s8_rr u8), (s8_z u8), (s8_nb u8), (s8_wa u8)), g8_1 u8, g8_2 u8, g8_3 u8, g8_4 u8), List.Perm.refl _, List.Perm.refl _, hF, hG, hP, tw_of 1 ((if_neg hok).symm) (by decide) (by decide)⟩⟩
set_option maxRecDepth 100000 in
set_option maxHeartbeats 4000000 in
theorem op_mayOdds (l : Launch) (E : Et) (x k : Nat) (p1 : Int32) (p2 : Int32) (b1 : Bool) : OpL E x k (fun w P => Ct l E yX6_mayOdds cX6_mayOdds 7 (some .long) 6 0 0 [.ref x, .int p1, .int p2, .int (nI (b1).toNat)] w P) (fun w P => Ct l E yX8_mayOdds cX8_mayOdds 6 (some .long) 5 0 0 [.ref k, .int p1, .int p2, .int (nI (b1).toNat)] w P) := by
  intro w6 w8 hv
  rcases hv with hv | hv
  · obtain ⟨u6, u8, hp6, hp8, hF, hN, hW⟩ := hv
    have hfd := hF.1
    have hby := hF.2.1
    have hkw := hF.2.2.1
    have h40z := hF.2.2.2.1
    have h40 := hF.2.2.2.2.1
    have hink2 := hF.2.2.2.2.2.1
    have hwt := hF.2.2.2.2.2.2.1
    have hdy := hF.2.2.2.2.2.2.2.1
    have hds := hF.2.2.2.2.2.2.2.2.1
    have hink := hF.2.2.2.2.2.2.2.2.2.1
    have ht := hF.2.2.2.2.2.2.2.2.2.2.1
    have ho := hF.2.2.2.2.2.2.2.2.2.2.2.1
    have hac := hF.2.2.2.2.2.2.2.2.2.2.2.2.1
    have him := hF.2.2.2.2.2.2.2.2.2.2.2.2.2.1
    have hc0 := hF.2.2.2.2.2.2.2.2.2.2.2.2.2.2.1
    have hc1 := hF.2.2.2.2.2.2.2.2.2.2.2.2.2.2.2.1
    have hc2 := hF.2.2.2.2.2.2.2.2.2.2.2.2.2.2.2.2.1
    have hc3 := hF.2.2.2.2.2.2.2.2.2.2.2.2.2.2.2.2.2.1
    have hc4 := hF.2.2.2.2.2.2.2.2.2.2.2.2.2.2.2.2.2.2.1
    have hc5 := hF.2.2.2.2.2.2.2.2.2.2.2.2.2.2.2.2.2.2.2.1
    have hc6 := hF.2.2.2.2.2.2.2.2.2.2.2.2.2.2.2.2.2.2.2.2.1
    have hc7 := hF.2.2.2.2.2.2.2.2.2.2.2.2.2.2.2.2.2.2.2.2.2
    have htr := hW.1
    have htl := hW.2.1
    have hy0 := hN.1
    have hy3 : (s6_cy u6) 3 = 0 := hy0 3 (by decide)
    have hy4 : (s6_cy u6) 4 = 0 := hy0 4 (by decide)
    have hy5 : (s6_cy u6) 5 = 0 := hy0 5 (by decide)
    have hy6 : (s6_cy u6) 6 = 0 := hy0 6 (by decide)
    refine ⟨(wrL (W6 E x (((s6_g u6), (s6_xa u6), (s6_ra u6), (s6_caz u6), (s6_ca u6), (s6_pq u6), (s6_fl u6), (if okM p1 ((s6_cy u6) 3) then (if okM p2 (2 ^ (s6_cy u6) 4) then 0 else 2) else 1)), g6_1 u6, g6_2 u6, g6_3 u6, g6_4 u6, g6_5 u6, g6_6 u6, g6_7 u6, g6_8 u6, g6_9 u6, g6_10 u6)) (if okM p1 ((s6_cy u6) 3) then (if okM p2 (2 ^ (s6_cy u6) 4) then lN (lowT ((s6_cy u6) 2 ^ brkN (s6_cy u6) (s6_Fs u6) (s6_Ft u6) (s6_t u6) (bdN (s6_ink u6) (s6_mn u6) p1 0) (tn p2)) (100 ^ brkN (s6_cy u6) (s6_Fs u6) (s6_Ft u6) (s6_t u6) (bdN (s6_ink u6) (s6_mn u6) p1 0) (tn p2)) b1) else (-1)) else (-1))), (wrL (W8n E k (((s6_g u6), (s6_xa u6), (s6_ra u6), (s6_caz u6), (s6_ca u6), (s6_pq u6), (s6_fl u6), (if okM p1 ((s6_cy u6) 3) then (if okM p2 (2 ^ (s6_cy u6) 4) then 0 else 2) else 1)), g6_1 u6, g6_2 u6, g6_3 u6, g6_4 u6, g6_5 u6, g6_6 u6, g6_7 u6, g6_8 u6, g6_9 u6, g6_10 u6) (((s8_q u8), 0, 1, (-1), (s8_rr u8), (s8_z u8), (s8_nb u8), (s8_wa u8)), g8_1 u8, g8_2 u8, g8_3 u8, g8_4 u8)) ((-1))), Ct.perm hp6.symm (Ct.frL (c_X6_mayOdds l E x (s6_xa u6) (s6_g u6) (s6_tr u6) (s6_fl u6) (s6_pl u6) (s6_cy u6) (s6_ca u6) (s6_Fs u6) (s6_Ft u6) (s6_hi u6) (s6_hm u6) (s6_t u6) (s6_dd u6) (s6_ink u6) (s6_mn u6) p1 p2 b1 (by first | assumption | omega) (by first | assumption | omega) (by first | assumption | omega) (by first | assumption | omega) (by first | assumption | omega) (by first | assumption | omega)) [0, 20, 26, 27, 36, 37, 38] rfl rfl rfl rfl), Ct.perm hp8.symm (Ct.frL (c_X8_mayOdds_n l E k (s8_th u8) (s8_tr8 u8) (s8_wh u8) (s8_rr u8) (s8_q u8) (upN (upN (upN (upN (s8_z u8) 6 (s6_fd u6)) 12 (s6_fl u6)) 19 (s6_ac u6)) 20 (s6_im u6)) (s8_nb u8) (s8_wa u8) (s8_wd u8) (s8_ev u8) (s8_al u8) (s8_wl u8) p1 p2 b1 ) [0] rfl rfl rfl rfl), fun r w h => ⟨_, h.2⟩, ?_⟩
    rintro r w r' w' ⟨rfl, rfl⟩ ⟨rfl, rfl⟩
    exact ⟨congrArg (fun z => some (Value.long z)) (if_neg (okM_0 hy3)), Or.inl ⟨(((s6_g u6), (s6_xa u6), (s6_ra u6), (s6_caz u6), (s6_ca u6), (s6_pq u6), (s6_fl u6), (if okM p1 ((s6_cy u6) 3) then (if okM p2 (2 ^ (s6_cy u6) 4) then 0 else 2) else 1)), g6_1 u6, g6_2 u6, g6_3 u6, g6_4 u6, g6_5 u6, g6_6 u6, g6_7 u6, g6_8 u6, g6_9 u6, g6_10 u6), (((s8_q u8), 0, 1, (-1), (s8_rr u8), (s8_z u8), (s8_nb u8), (s8_wa u8)), g8_1 u8, g8_2 u8, g8_3 u8, g8_4 u8), List.Perm.refl _, List.Perm.refl _, hF, hN, tw_of 1 ((if_neg (okM_0 hy3)).symm) (by decide) (by decide)⟩⟩
  · obtain ⟨u6, u8, hp6, hp8, hF, hG, hP, hW⟩ := hv
    have hfd := hF.1
    have hby := hF.2.1
    have hkw := hF.2.2.1
    have h40z := hF.2.2.2.1
    have h40 := hF.2.2.2.2.1
    have hink2 := hF.2.2.2.2.2.1
    have hwt := hF.2.2.2.2.2.2.1
    have hdy := hF.2.2.2.2.2.2.2.1
    have hds := hF.2.2.2.2.2.2.2.2.1
    have hink := hF.2.2.2.2.2.2.2.2.2.1
    have ht := hF.2.2.2.2.2.2.2.2.2.2.1
    have ho := hF.2.2.2.2.2.2.2.2.2.2.2.1
    have hac := hF.2.2.2.2.2.2.2.2.2.2.2.2.1
    have him := hF.2.2.2.2.2.2.2.2.2.2.2.2.2.1
    have hc0 := hF.2.2.2.2.2.2.2.2.2.2.2.2.2.2.1
    have hc1 := hF.2.2.2.2.2.2.2.2.2.2.2.2.2.2.2.1
    have hc2 := hF.2.2.2.2.2.2.2.2.2.2.2.2.2.2.2.2.1
    have hc3 := hF.2.2.2.2.2.2.2.2.2.2.2.2.2.2.2.2.2.1
    have hc4 := hF.2.2.2.2.2.2.2.2.2.2.2.2.2.2.2.2.2.2.1
    have hc5 := hF.2.2.2.2.2.2.2.2.2.2.2.2.2.2.2.2.2.2.2.1
    have hc6 := hF.2.2.2.2.2.2.2.2.2.2.2.2.2.2.2.2.2.2.2.2.1
    have hc7 := hF.2.2.2.2.2.2.2.2.2.2.2.2.2.2.2.2.2.2.2.2.2
    have htr := hW.1
    have htl := hW.2.1
    have hgb := g8_b hc4 hc5 hc7 hG
    have hfo := hgb.1
    have hon := hgb.2.1
    have htw := hgb.2.2.1
    have hFs := hgb.2.2.2.1
    have hFt := hgb.2.2.2.2.1
    have hik := hgb.2.2.2.2.2.1
    have hun := hgb.2.2.2.2.2.2.1
    have hdi := hgb.2.2.2.2.2.2.2.1
    have hd2 := hgb.2.2.2.2.2.2.2.2.1
    have hd3 := hgb.2.2.2.2.2.2.2.2.2.1
    have hkp := hgb.2.2.2.2.2.2.2.2.2.2.1
    have hm1 := hgb.2.2.2.2.2.2.2.2.2.2.2.1
    have hal_ := hgb.2.2.2.2.2.2.2.2.2.2.2.2
    have hal := hal_ (s6_t u6)
    have hz : ∀ c, (s6_cy u6) 5 ≤ c → (s6_ink u6) c = 0 := hP.1.2.1
    have hmz : ∀ c, (s6_cy u6) 5 ≤ c → (s6_mn u6) c = -1 := hP.1.2.2.1
    have hdd9 : (s6_dd u6) ≤ 999 := hP.1.2.2.2.2
    have hw8 := w8_e hG
    have h30 : ¬ (s6_cy u6) 3 = 0 := by omega
    by_cases hok : okM p1 ((s6_cy u6) 3)
    · by_cases hs0 : okM p2 (2 ^ (s6_cy u6) 4)
      · obtain ⟨d0, hd0, rfl⟩ := okM_nat hs0 (pow6 hc4)
        have hd31 : d0 < 2 ^ 31 := Nat.lt_trans hd0 (pow6 hc4)
        refine ⟨(wrL (W6 E x (((s6_g u6), (s6_xa u6), (s6_ra u6), (s6_caz u6), (s6_ca u6), (s6_pq u6), (s6_fl u6), (if okM p1 ((s6_cy u6) 3) then (if okM (nI d0) (2 ^ (s6_cy u6) 4) then 0 else 2) else 1)), g6_1 u6, g6_2 u6, g6_3 u6, g6_4 u6, g6_5 u6, g6_6 u6, g6_7 u6, g6_8 u6, g6_9 u6, g6_10 u6)) (if okM p1 ((s6_cy u6) 3) then (if okM (nI d0) (2 ^ (s6_cy u6) 4) then lN (lowT ((s6_cy u6) 2 ^ brkN (s6_cy u6) (s6_Fs u6) (s6_Ft u6) (s6_t u6) (bdN (s6_ink u6) (s6_mn u6) p1 0) (tn (nI d0))) (100 ^ brkN (s6_cy u6) (s6_Fs u6) (s6_Ft u6) (s6_t u6) (bdN (s6_ink u6) (s6_mn u6) p1 0) (tn (nI d0))) b1) else (-1)) else (-1))), (wrL (W8c E k (((s6_g u6), (s6_xa u6), (s6_ra u6), (s6_caz u6), (s6_ca u6), (s6_pq u6), (s6_fl u6), (if okM p1 ((s6_cy u6) 3) then (if okM (nI d0) (2 ^ (s6_cy u6) 4) then 0 else 2) else 1)), g6_1 u6, g6_2 u6, g6_3 u6, g6_4 u6, g6_5 u6, g6_6 u6, g6_7 u6, g6_8 u6, g6_9 u6, g6_10 u6) (((s8_q u8), 0, 0, (-1), (s8_rr u8), (s8_z u8), (s8_nb u8), (s8_wa u8)), ((s8_wd u8), (allS ((s6_cy u6) 4)), (s8_al u8), (lN (100 ^ pop8 (bdN (s6_ink u6) (s6_mn u6) p1 0))), (xF (s6_mn u6) (s6_ink u6) (s6_t u6) (s6_dd u6)), (s8_pp u8), (s8_pj8 u8), (lyF (s6_Fs u6) (s6_Ft u6) (s6_t u6) ((s6_cy u6) 4) (s8_ke u8) ((s6_cy u6) 5))), g8_2 u8, g8_3 u8, g8_4 u8)) (lN (lowT ((s6_cy u6) 2 ^ brkN (s6_cy u6) (s6_Fs u6) (s6_Ft u6) (s6_t u6) (bdN (s6_ink u6) (s6_mn u6) p1 0) d0) (100 ^ brkN (s6_cy u6) (s6_Fs u6) (s6_Ft u6) (s6_t u6) (bdN (s6_ink u6) (s6_mn u6) p1 0) d0) b1))), Ct.perm hp6.symm (Ct.frL (c_X6_mayOdds l E x (s6_xa u6) (s6_g u6) (s6_tr u6) (s6_fl u6) (s6_pl u6) (s6_cy u6) (s6_ca u6) (s6_Fs u6) (s6_Ft u6) (s6_hi u6) (s6_hm u6) (s6_t u6) (s6_dd u6) (s6_ink u6) (s6_mn u6) p1 (nI d0) b1 (by first | assumption | omega) (by first | assumption | omega) (by first | assumption | omega) (by first | assumption | omega) (by first | assumption | omega) (by first | assumption | omega)) [0, 20, 26, 27, 36, 37, 38] rfl rfl rfl rfl), Ct.perm hp8.symm (Ct.frL (c_X8_mayOdds l E k (s8_th u8) (s8_tr8 u8) (s8_wh u8) (s8_g8 u8) (s8_rr u8) (s8_q u8) (upN (upN (upN (upN (s8_z u8) 6 (s6_fd u6)) 12 (s6_fl u6)) 19 (s6_ac u6)) 20 (s6_im u6)) (s8_nb u8) (s8_wa u8) (s8_wd u8) (s8_ev u8) (s8_al u8) (s8_wl u8) (s6_cy u6) (s8_kp u8) (s8_nc u8) (s8_cb u8) (s8_gf u8) (s8_go_ u8) (s8_gt_ u8) (s8_xf u8) (s6_mn u6) (s6_ink u6) (s6_t u6) (s6_dd u6) (s6_Fs u6) (s6_Ft u6) (s8_ke u8) p1 d0 b1 (by first | assumption | omega) (by first | assumption | omega) (by first | assumption | omega) (by first | assumption | omega) (by first | assumption | omega) (by first | assumption | omega) (by first | assumption | omega) (by first | assumption | omega) (by first | assumption | omega) (by first | assumption | omega) (by first | assumption | omega) (by first | assumption | omega)) [0, 10, 13, 14, 15, 2, 3, 6] rfl rfl rfl rfl), fun r w h => ⟨_, h.2⟩, ?_⟩
        rintro r w r' w' ⟨rfl, rfl⟩ ⟨rfl, rfl⟩
        exact ⟨congrArg (fun z => some (Value.long z)) ((if_pos hok).trans ((if_pos hs0).trans (by rw [tn_n hd31]))), Or.inr ⟨(((s6_g u6), (s6_xa u6), (s6_ra u6), (s6_caz u6), (s6_ca u6), (s6_pq u6), (s6_fl u6), (if okM p1 ((s6_cy u6) 3) then (if okM (nI d0) (2 ^ (s6_cy u6) 4) then 0 else 2) else 1)), g6_1 u6, g6_2 u6, g6_3 u6, g6_4 u6, g6_5 u6, g6_6 u6, g6_7 u6, g6_8 u6, g6_9 u6, g6_10 u6), (((s8_q u8), 0, 0, (-1), (s8_rr u8), (s8_z u8), (s8_nb u8), (s8_wa u8)), ((s8_wd u8), (allS ((s6_cy u6) 4)), (s8_al u8), (lN (100 ^ pop8 (bdN (s6_ink u6) (s6_mn u6) p1 0))), (xF (s6_mn u6) (s6_ink u6) (s6_t u6) (s6_dd u6)), (s8_pp u8), (s8_pj8 u8), (lyF (s6_Fs u6) (s6_Ft u6) (s6_t u6) ((s6_cy u6) 4) (s8_ke u8) ((s6_cy u6) 5))), g8_2 u8, g8_3 u8, g8_4 u8), List.Perm.refl _, List.Perm.refl _, hF, hG, hP, tw_of 0 (((if_pos hok).trans (if_pos hs0)).symm) (by decide) (by decide)⟩⟩
      · refine ⟨(wrL (W6 E x (((s6_g u6), (s6_xa u6), (s6_ra u6), (s6_caz u6), (s6_ca u6), (s6_pq u6), (s6_fl u6), (if okM p1 ((s6_cy u6) 3) then (if okM p2 (2 ^ (s6_cy u6) 4) then 0 else 2) else 1)), g6_1 u6, g6_2 u6, g6_3 u6, g6_4 u6, g6_5 u6, g6_6 u6, g6_7 u6, g6_8 u6, g6_9 u6, g6_10 u6)) (if okM p1 ((s6_cy u6) 3) then (if okM p2 (2 ^ (s6_cy u6) 4) then lN (lowT ((s6_cy u6) 2 ^ brkN (s6_cy u6) (s6_Fs u6) (s6_Ft u6) (s6_t u6) (bdN (s6_ink u6) (s6_mn u6) p1 0) (tn p2)) (100 ^ brkN (s6_cy u6) (s6_Fs u6) (s6_Ft u6) (s6_t u6) (bdN (s6_ink u6) (s6_mn u6) p1 0) (tn p2)) b1) else (-1)) else (-1))), (wrL (W8c E k (((s6_g u6), (s6_xa u6), (s6_ra u6), (s6_caz u6), (s6_ca u6), (s6_pq u6), (s6_fl u6), (if okM p1 ((s6_cy u6) 3) then (if okM p2 (2 ^ (s6_cy u6) 4) then 0 else 2) else 1)), g6_1 u6, g6_2 u6, g6_3 u6, g6_4 u6, g6_5 u6, g6_6 u6, g6_7 u6, g6_8 u6, g6_9 u6, g6_10 u6) (((s8_q u8), 0, 2, (-1), (s8_rr u8), (s8_z u8), (s8_nb u8), (s8_wa u8)), g8_1 u8, g8_2 u8, g8_3 u8, g8_4 u8)) ((-1))), Ct.perm hp6.symm (Ct.frL (c_X6_mayOdds l E x (s6_xa u6) (s6_g u6) (s6_tr u6) (s6_fl u6) (s6_pl u6) (s6_cy u6) (s6_ca u6) (s6_Fs u6) (s6_Ft u6) (s6_hi u6) (s6_hm u6) (s6_t u6) (s6_dd u6) (s6_ink u6) (s6_mn u6) p1 p2 b1 (by first | assumption | omega) (by first | assumption | omega) (by first | assumption | omega) (by first | assumption | omega) (by first | assumption | omega) (by first | assumption | omega)) [0, 20, 26, 27, 36, 37, 38] rfl rfl rfl rfl), Ct.perm hp8.symm (Ct.frL (c_X8_mayOdds_no2 l E k (s8_th u8) (s8_tr8 u8) (s8_wh u8) (s8_g8 u8) (s8_rr u8) (s8_q u8) (upN (upN (upN (upN (s8_z u8) 6 (s6_fd u6)) 12 (s6_fl u6)) 19 (s6_ac u6)) 20 (s6_im u6)) (s8_nb u8) (s8_wa u8) (s8_wd u8) (s8_ev u8) (s8_al u8) (s8_wl u8) (s6_cy u6) (s8_kp u8) (s8_nc u8) (s8_cb u8) p1 p2 b1 (by first | assumption | omega) (by first | assumption | omega) (hs0)) [0, 10] rfl rfl rfl rfl), fun r w h => ⟨_, h.2⟩, ?_⟩
        rintro r w r' w' ⟨rfl, rfl⟩ ⟨rfl, rfl⟩
        exact ⟨congrArg (fun z => some (Value.long z)) ((if_pos hok).trans (if_neg hs0)), Or.inr ⟨(((s6_g u6), (s6_xa u6), (s6_ra u6), (s6_caz u6), (s6_ca u6), (s6_pq u6), (s6_fl u6), (if okM p1 ((s6_cy u6) 3) then (if okM p2 (2 ^ (s6_cy u6) 4) then 0 else 2) else 1)), g6_1 u6, g6_2 u6, g6_3 u6, g6_4 u6, g6_5 u6, g6_6 u6, g6_7 u6, g6_8 u6, g6_9 u6, g6_10 u6), (((s8_q u8), 0, 2, (-1), (s8_rr u8), (s8_z u8), (s8_nb u8), (s8_wa u8)), g8_1 u8, g8_2 u8, g8_3 u8, g8_4 u8), List.Perm.refl _, List.Perm.refl _, hF, hG, hP, tw_of 2 (((if_pos hok).trans (if_neg hs0)).symm) (by decide) (by decide)⟩⟩
    · refine ⟨(wrL (W6 E x (((s6_g u6), (s6_xa u6), (s6_ra u6), (s6_caz u6), (s6_ca u6), (s6_pq u6), (s6_fl u6), (if okM p1 ((s6_cy u6) 3) then (if okM p2 (2 ^ (s6_cy u6) 4) then 0 else 2) else 1)), g6_1 u6, g6_2 u6, g6_3 u6, g6_4 u6, g6_5 u6, g6_6 u6, g6_7 u6, g6_8 u6, g6_9 u6, g6_10 u6)) (if okM p1 ((s6_cy u6) 3) then (if okM p2 (2 ^ (s6_cy u6) 4) then lN (lowT ((s6_cy u6) 2 ^ brkN (s6_cy u6) (s6_Fs u6) (s6_Ft u6) (s6_t u6) (bdN (s6_ink u6) (s6_mn u6) p1 0) (tn p2)) (100 ^ brkN (s6_cy u6) (s6_Fs u6) (s6_Ft u6) (s6_t u6) (bdN (s6_ink u6) (s6_mn u6) p1 0) (tn p2)) b1) else (-1)) else (-1))), (wrL (W8c E k (((s6_g u6), (s6_xa u6), (s6_ra u6), (s6_caz u6), (s6_ca u6), (s6_pq u6), (s6_fl u6), (if okM p1 ((s6_cy u6) 3) then (if okM p2 (2 ^ (s6_cy u6) 4) then 0 else 2) else 1)), g6_1 u6, g6_2 u6, g6_3 u6, g6_4 u6, g6_5 u6, g6_6 u6, g6_7 u6, g6_8 u6, g6_9 u6, g6_10 u6) (((s8_q u8), 0, 1, (-1), (s8_rr u8), (s8_z u8), (s8_nb u8), (s8_wa u8)), g8_1 u8, g8_2 u8, g8_3 u8, g8_4 u8)) ((-1))), Ct.perm hp6.symm (Ct.frL (c_X6_mayOdds l E x (s6_xa u6) (s6_g u6) (s6_tr u6) (s6_fl u6) (s6_pl u6) (s6_cy u6) (s6_ca u6) (s6_Fs u6) (s6_Ft u6) (s6_hi u6) (s6_hm u6) (s6_t u6) (s6_dd u6) (s6_ink u6) (s6_mn u6) p1 p2 b1 (by first | assumption | omega) (by first | assumption | omega) (by first | assumption | omega) (by first | assumption | omega) (by first | assumption | omega) (by first | assumption | omega)) [0, 20, 26, 27, 36, 37, 38] rfl rfl rfl rfl), Ct.perm hp8.symm (Ct.frL (c_X8_mayOdds_no1 l E k (s8_th u8) (s8_tr8 u8) (s8_wh u8) (s8_g8 u8) (s8_rr u8) (s8_q u8) (upN (upN (upN (upN (s8_z u8) 6 (s6_fd u6)) 12 (s6_fl u6)) 19 (s6_ac u6)) 20 (s6_im u6)) (s8_nb u8) (s8_wa u8) (s8_wd u8) (s8_ev u8) (s8_al u8) (s8_wl u8) (s6_cy u6) (s8_kp u8) (s8_nc u8) (s8_cb u8) p1 p2 b1 (by first | assumption | omega)) [0, 10] rfl rfl rfl rfl), fun r w h => ⟨_, h.2⟩, ?_⟩
      rintro r w r' w' ⟨rfl, rfl⟩ ⟨rfl, rfl⟩
      exact ⟨congrArg (fun z => some (Value.long z)) (if_neg hok), Or.inr ⟨(((s6_g u6), (s6_xa u6), (s6_ra u6), (s6_caz u6), (s6_ca u6), (s6_pq u6), (s6_fl u6), (if okM p1 ((s6_cy u6) 3) then (if okM p2 (2 ^ (s6_cy u6) 4) then 0 else 2) else 1)), g6_1 u6, g6_2 u6, g6_3 u6, g6_4 u6, g6_5 u6, g6_6 u6, g6_7 u6, g6_8 u6, g6_9 u6, g6_10 u6), (((s8_q u8), 0, 1, (-1), (s8_rr u8), (s8_z u8), (s8_nb u8), (s8_wa u8)), g8_1 u8, g8_2 u8, g8_3 u8, g8_4 u8), List.Perm.refl _, List.Perm.refl _, hF, hG, hP, tw_of 1 ((if_neg hok).symm) (by decide) (by decide)⟩⟩
set_option maxRecDepth 100000 in
set_option maxHeartbeats 4000000 in
theorem op_waysIn (l : Launch) (E : Et) (x k : Nat) (p1 : Int32) (p2 : Int32) : OpI E x k (fun w P => Ct l E yX6_waysIn cX6_waysIn 3 (some .int) 6 0 0 [.ref x, .int p1, .int p2] w P) (fun w P => Ct l E yX8_waysIn cX8_waysIn 4 (some .int) 5 0 0 [.ref k, .int p1, .int p2] w P) := by
  intro w6 w8 hv
  rcases hv with hv | hv
  · obtain ⟨u6, u8, hp6, hp8, hF, hN, hW⟩ := hv
    have hfd := hF.1
    have hby := hF.2.1
    have hkw := hF.2.2.1
    have h40z := hF.2.2.2.1
    have h40 := hF.2.2.2.2.1
    have hink2 := hF.2.2.2.2.2.1
    have hwt := hF.2.2.2.2.2.2.1
    have hdy := hF.2.2.2.2.2.2.2.1
    have hds := hF.2.2.2.2.2.2.2.2.1
    have hink := hF.2.2.2.2.2.2.2.2.2.1
    have ht := hF.2.2.2.2.2.2.2.2.2.2.1
    have ho := hF.2.2.2.2.2.2.2.2.2.2.2.1
    have hac := hF.2.2.2.2.2.2.2.2.2.2.2.2.1
    have him := hF.2.2.2.2.2.2.2.2.2.2.2.2.2.1
    have hc0 := hF.2.2.2.2.2.2.2.2.2.2.2.2.2.2.1
    have hc1 := hF.2.2.2.2.2.2.2.2.2.2.2.2.2.2.2.1
    have hc2 := hF.2.2.2.2.2.2.2.2.2.2.2.2.2.2.2.2.1
    have hc3 := hF.2.2.2.2.2.2.2.2.2.2.2.2.2.2.2.2.2.1
    have hc4 := hF.2.2.2.2.2.2.2.2.2.2.2.2.2.2.2.2.2.2.1
    have hc5 := hF.2.2.2.2.2.2.2.2.2.2.2.2.2.2.2.2.2.2.2.1
    have hc6 := hF.2.2.2.2.2.2.2.2.2.2.2.2.2.2.2.2.2.2.2.2.1
    have hc7 := hF.2.2.2.2.2.2.2.2.2.2.2.2.2.2.2.2.2.2.2.2.2
    have htr := hW.1
    have htl := hW.2.1
    have hy0 := hN.1
    have hy3 : (s6_cy u6) 3 = 0 := hy0 3 (by decide)
    have hy4 : (s6_cy u6) 4 = 0 := hy0 4 (by decide)
    have hy5 : (s6_cy u6) 5 = 0 := hy0 5 (by decide)
    have hy6 : (s6_cy u6) 6 = 0 := hy0 6 (by decide)
    refine ⟨(wrI (W6 E x (((s6_g u6), (s6_xa u6), (s6_ra u6), (s6_caz u6), (s6_ca u6), (s6_pq u6), (s6_fl u6), (if okM p1 ((s6_cy u6) 3) then (if 0 ≤ p2 ∧ p2 ≤ nI 60 then 0 else 2) else 1)), g6_1 u6, g6_2 u6, g6_3 u6, g6_4 u6, g6_5 u6, g6_6 u6, g6_7 u6, g6_8 u6, g6_9 u6, g6_10 u6)) (if okM p1 ((s6_cy u6) 3) then (if 0 ≤ p2 ∧ p2 ≤ nI 60 then nI (pop64 (kpN (s6_cy u6) (s6_Fs u6) (s6_Ft u6) (s6_t u6) (bdN (s6_ink u6) (s6_mn u6) p1 (tn p2)))) else (-1)) else (-1))), (wrI (W8n E k (((s6_g u6), (s6_xa u6), (s6_ra u6), (s6_caz u6), (s6_ca u6), (s6_pq u6), (s6_fl u6), (if okM p1 ((s6_cy u6) 3) then (if 0 ≤ p2 ∧ p2 ≤ nI 60 then 0 else 2) else 1)), g6_1 u6, g6_2 u6, g6_3 u6, g6_4 u6, g6_5 u6, g6_6 u6, g6_7 u6, g6_8 u6, g6_9 u6, g6_10 u6) (((s8_q u8), 0, 1, (-1), (s8_rr u8), (s8_z u8), (s8_nb u8), (s8_wa u8)), g8_1 u8, g8_2 u8, g8_3 u8, g8_4 u8)) ((-1))), Ct.perm hp6.symm (Ct.frI (c_X6_waysIn l E x (s6_xa u6) (s6_g u6) (s6_tr u6) (s6_fl u6) (s6_pl u6) (s6_cy u6) (s6_ca u6) (s6_Fs u6) (s6_Ft u6) (s6_hi u6) (s6_hm u6) (s6_t u6) (s6_dd u6) (s6_ink u6) (s6_mn u6) p1 p2 (by first | assumption | omega) (by first | assumption | omega) (by first | assumption | omega) (by first | assumption | omega) (by first | assumption | omega)) [0, 20, 26, 27, 36, 37, 38] rfl rfl rfl rfl), Ct.perm hp8.symm (Ct.frI (c_X8_waysIn_n l E k (s8_th u8) (s8_tr8 u8) (s8_wh u8) (s8_rr u8) (s8_q u8) (upN (upN (upN (upN (s8_z u8) 6 (s6_fd u6)) 12 (s6_fl u6)) 19 (s6_ac u6)) 20 (s6_im u6)) (s8_nb u8) (s8_wa u8) (s8_wd u8) (s8_ev u8) (s8_al u8) (s8_wl u8) p1 p2 ) [0] rfl rfl rfl rfl), fun r w h => ⟨_, h.2⟩, ?_⟩
    rintro r w r' w' ⟨rfl, rfl⟩ ⟨rfl, rfl⟩
    exact ⟨congrArg (fun z => some (Value.int z)) (if_neg (okM_0 hy3)), Or.inl ⟨(((s6_g u6), (s6_xa u6), (s6_ra u6), (s6_caz u6), (s6_ca u6), (s6_pq u6), (s6_fl u6), (if okM p1 ((s6_cy u6) 3) then (if 0 ≤ p2 ∧ p2 ≤ nI 60 then 0 else 2) else 1)), g6_1 u6, g6_2 u6, g6_3 u6, g6_4 u6, g6_5 u6, g6_6 u6, g6_7 u6, g6_8 u6, g6_9 u6, g6_10 u6), (((s8_q u8), 0, 1, (-1), (s8_rr u8), (s8_z u8), (s8_nb u8), (s8_wa u8)), g8_1 u8, g8_2 u8, g8_3 u8, g8_4 u8), List.Perm.refl _, List.Perm.refl _, hF, hN, tw_of 1 ((if_neg (okM_0 hy3)).symm) (by decide) (by decide)⟩⟩
  · obtain ⟨u6, u8, hp6, hp8, hF, hG, hP, hW⟩ := hv
    have hfd := hF.1
    have hby := hF.2.1
    have hkw := hF.2.2.1
    have h40z := hF.2.2.2.1
    have h40 := hF.2.2.2.2.1
    have hink2 := hF.2.2.2.2.2.1
    have hwt := hF.2.2.2.2.2.2.1
    have hdy := hF.2.2.2.2.2.2.2.1
    have hds := hF.2.2.2.2.2.2.2.2.1
    have hink := hF.2.2.2.2.2.2.2.2.2.1
    have ht := hF.2.2.2.2.2.2.2.2.2.2.1
    have ho := hF.2.2.2.2.2.2.2.2.2.2.2.1
    have hac := hF.2.2.2.2.2.2.2.2.2.2.2.2.1
    have him := hF.2.2.2.2.2.2.2.2.2.2.2.2.2.1
    have hc0 := hF.2.2.2.2.2.2.2.2.2.2.2.2.2.2.1
    have hc1 := hF.2.2.2.2.2.2.2.2.2.2.2.2.2.2.2.1
    have hc2 := hF.2.2.2.2.2.2.2.2.2.2.2.2.2.2.2.2.1
    have hc3 := hF.2.2.2.2.2.2.2.2.2.2.2.2.2.2.2.2.2.1
    have hc4 := hF.2.2.2.2.2.2.2.2.2.2.2.2.2.2.2.2.2.2.1
    have hc5 := hF.2.2.2.2.2.2.2.2.2.2.2.2.2.2.2.2.2.2.2.1
    have hc6 := hF.2.2.2.2.2.2.2.2.2.2.2.2.2.2.2.2.2.2.2.2.1
    have hc7 := hF.2.2.2.2.2.2.2.2.2.2.2.2.2.2.2.2.2.2.2.2.2
    have htr := hW.1
    have htl := hW.2.1
    have hgb := g8_b hc4 hc5 hc7 hG
    have hfo := hgb.1
    have hon := hgb.2.1
    have htw := hgb.2.2.1
    have hFs := hgb.2.2.2.1
    have hFt := hgb.2.2.2.2.1
    have hik := hgb.2.2.2.2.2.1
    have hun := hgb.2.2.2.2.2.2.1
    have hdi := hgb.2.2.2.2.2.2.2.1
    have hd2 := hgb.2.2.2.2.2.2.2.2.1
    have hd3 := hgb.2.2.2.2.2.2.2.2.2.1
    have hkp := hgb.2.2.2.2.2.2.2.2.2.2.1
    have hm1 := hgb.2.2.2.2.2.2.2.2.2.2.2.1
    have hal_ := hgb.2.2.2.2.2.2.2.2.2.2.2.2
    have hal := hal_ (s6_t u6)
    have hz : ∀ c, (s6_cy u6) 5 ≤ c → (s6_ink u6) c = 0 := hP.1.2.1
    have hmz : ∀ c, (s6_cy u6) 5 ≤ c → (s6_mn u6) c = -1 := hP.1.2.2.1
    have hdd9 : (s6_dd u6) ≤ 999 := hP.1.2.2.2.2
    have hw8 := w8_e hG
    have h30 : ¬ (s6_cy u6) 3 = 0 := by omega
    by_cases hok : okM p1 ((s6_cy u6) 3)
    · by_cases hs0 : 0 ≤ p2 ∧ p2 ≤ nI 60
      · obtain ⟨d0, hd0, rfl⟩ := rg_nat (by decide) hs0
        have hd31 : d0 < 2 ^ 31 := by omega
        refine ⟨(wrI (W6 E x (((s6_g u6), (s6_xa u6), (s6_ra u6), (s6_caz u6), (s6_ca u6), (s6_pq u6), (s6_fl u6), (if okM p1 ((s6_cy u6) 3) then (if 0 ≤ (nI d0) ∧ (nI d0) ≤ nI 60 then 0 else 2) else 1)), g6_1 u6, g6_2 u6, g6_3 u6, g6_4 u6, g6_5 u6, g6_6 u6, g6_7 u6, g6_8 u6, g6_9 u6, g6_10 u6)) (if okM p1 ((s6_cy u6) 3) then (if 0 ≤ (nI d0) ∧ (nI d0) ≤ nI 60 then nI (pop64 (kpN (s6_cy u6) (s6_Fs u6) (s6_Ft u6) (s6_t u6) (bdN (s6_ink u6) (s6_mn u6) p1 (tn (nI d0))))) else (-1)) else (-1))), (wrI (W8c E k (((s6_g u6), (s6_xa u6), (s6_ra u6), (s6_caz u6), (s6_ca u6), (s6_pq u6), (s6_fl u6), (if okM p1 ((s6_cy u6) 3) then (if 0 ≤ (nI d0) ∧ (nI d0) ≤ nI 60 then 0 else 2) else 1)), g6_1 u6, g6_2 u6, g6_3 u6, g6_4 u6, g6_5 u6, g6_6 u6, g6_7 u6, g6_8 u6, g6_9 u6, g6_10 u6) (((s8_q u8), 0, 0, (-1), (s8_rr u8), (s8_z u8), (s8_nb u8), (s8_wa u8)), ((s8_wd u8), (allS ((s6_cy u6) 4)), (s8_al u8), (s8_wl u8), (xF (s6_mn u6) (fun c => (s6_ink u6) c - d0) (s6_t u6) ((s6_dd u6) + d0)), (s8_pp u8), (s8_pj8 u8), (lyF (s6_Fs u6) (s6_Ft u6) (s6_t u6) ((s6_cy u6) 4) (s8_ke u8) ((s6_cy u6) 5))), g8_2 u8, g8_3 u8, g8_4 u8)) (nI (pop64 (kpN (s6_cy u6) (s6_Fs u6) (s6_Ft u6) (s6_t u6) (bdN (s6_ink u6) (s6_mn u6) p1 d0))))), Ct.perm hp6.symm (Ct.frI (c_X6_waysIn l E x (s6_xa u6) (s6_g u6) (s6_tr u6) (s6_fl u6) (s6_pl u6) (s6_cy u6) (s6_ca u6) (s6_Fs u6) (s6_Ft u6) (s6_hi u6) (s6_hm u6) (s6_t u6) (s6_dd u6) (s6_ink u6) (s6_mn u6) p1 (nI d0) (by first | assumption | omega) (by first | assumption | omega) (by first | assumption | omega) (by first | assumption | omega) (by first | assumption | omega)) [0, 20, 26, 27, 36, 37, 38] rfl rfl rfl rfl), Ct.perm hp8.symm (Ct.frI (c_X8_waysIn l E k (s8_th u8) (s8_tr8 u8) (s8_wh u8) (s8_g8 u8) (s8_rr u8) (s8_q u8) (upN (upN (upN (upN (s8_z u8) 6 (s6_fd u6)) 12 (s6_fl u6)) 19 (s6_ac u6)) 20 (s6_im u6)) (s8_nb u8) (s8_wa u8) (s8_wd u8) (s8_ev u8) (s8_al u8) (s8_wl u8) (s6_cy u6) (s8_kp u8) (s8_nc u8) (s8_cb u8) (s8_gf u8) (s8_go_ u8) (s8_gt_ u8) (s8_xf u8) (s6_mn u6) (s6_ink u6) (s6_t u6) (s6_dd u6) (s6_Fs u6) (s6_Ft u6) (s8_ke u8) p1 d0 (by first | assumption | omega) (by first | assumption | omega) (by first | assumption | omega) (by first | assumption | omega) (by first | assumption | omega) (by first | assumption | omega) (by first | assumption | omega) (by first | assumption | omega) (by first | assumption | omega) (by first | assumption | omega) (by first | assumption | omega)) [0, 10, 13, 14, 15, 2, 3, 6] rfl rfl rfl rfl), fun r w h => ⟨_, h.2⟩, ?_⟩
        rintro r w r' w' ⟨rfl, rfl⟩ ⟨rfl, rfl⟩
        exact ⟨congrArg (fun z => some (Value.int z)) ((if_pos hok).trans ((if_pos hs0).trans (by rw [tn_n hd31]))), Or.inr ⟨(((s6_g u6), (s6_xa u6), (s6_ra u6), (s6_caz u6), (s6_ca u6), (s6_pq u6), (s6_fl u6), (if okM p1 ((s6_cy u6) 3) then (if 0 ≤ (nI d0) ∧ (nI d0) ≤ nI 60 then 0 else 2) else 1)), g6_1 u6, g6_2 u6, g6_3 u6, g6_4 u6, g6_5 u6, g6_6 u6, g6_7 u6, g6_8 u6, g6_9 u6, g6_10 u6), (((s8_q u8), 0, 0, (-1), (s8_rr u8), (s8_z u8), (s8_nb u8), (s8_wa u8)), ((s8_wd u8), (allS ((s6_cy u6) 4)), (s8_al u8), (s8_wl u8), (xF (s6_mn u6) (fun c => (s6_ink u6) c - d0) (s6_t u6) ((s6_dd u6) + d0)), (s8_pp u8), (s8_pj8 u8), (lyF (s6_Fs u6) (s6_Ft u6) (s6_t u6) ((s6_cy u6) 4) (s8_ke u8) ((s6_cy u6) 5))), g8_2 u8, g8_3 u8, g8_4 u8), List.Perm.refl _, List.Perm.refl _, hF, hG, hP, tw_of 0 (((if_pos hok).trans (if_pos hs0)).symm) (by decide) (by decide)⟩⟩
      · refine ⟨(wrI (W6 E x (((s6_g u6), (s6_xa u6), (s6_ra u6), (s6_caz u6), (s6_ca u6), (s6_pq u6), (s6_fl u6), (if okM p1 ((s6_cy u6) 3) then (if 0 ≤ p2 ∧ p2 ≤ nI 60 then 0 else 2) else 1)), g6_1 u6, g6_2 u6, g6_3 u6, g6_4 u6, g6_5 u6, g6_6 u6, g6_7 u6, g6_8 u6, g6_9 u6, g6_10 u6)) (if okM p1 ((s6_cy u6) 3) then (if 0 ≤ p2 ∧ p2 ≤ nI 60 then nI (pop64 (kpN (s6_cy u6) (s6_Fs u6) (s6_Ft u6) (s6_t u6) (bdN (s6_ink u6) (s6_mn u6) p1 (tn p2)))) else (-1)) else (-1))), (wrI (W8c E k (((s6_g u6), (s6_xa u6), (s6_ra u6), (s6_caz u6), (s6_ca u6), (s6_pq u6), (s6_fl u6), (if okM p1 ((s6_cy u6) 3) then (if 0 ≤ p2 ∧ p2 ≤ nI 60 then 0 else 2) else 1)), g6_1 u6, g6_2 u6, g6_3 u6, g6_4 u6, g6_5 u6, g6_6 u6, g6_7 u6, g6_8 u6, g6_9 u6, g6_10 u6) (((s8_q u8), 0, 2, (-1), (s8_rr u8), (s8_z u8), (s8_nb u8), (s8_wa u8)), g8_1 u8, g8_2 u8, g8_3 u8, g8_4 u8)) ((-1))), Ct.perm hp6.symm (Ct.frI (c_X6_waysIn l E x (s6_xa u6) (s6_g u6) (s6_tr u6) (s6_fl u6) (s6_pl u6) (s6_cy u6) (s6_ca u6) (s6_Fs u6) (s6_Ft u6) (s6_hi u6) (s6_hm u6) (s6_t u6) (s6_dd u6) (s6_ink u6) (s6_mn u6) p1 p2 (by first | assumption | omega) (by first | assumption | omega) (by first | assumption | omega) (by first | assumption | omega) (by first | assumption | omega)) [0, 20, 26, 27, 36, 37, 38] rfl rfl rfl rfl), Ct.perm hp8.symm (Ct.frI (c_X8_waysIn_no2 l E k (s8_th u8) (s8_tr8 u8) (s8_wh u8) (s8_g8 u8) (s8_rr u8) (s8_q u8) (upN (upN (upN (upN (s8_z u8) 6 (s6_fd u6)) 12 (s6_fl u6)) 19 (s6_ac u6)) 20 (s6_im u6)) (s8_nb u8) (s8_wa u8) (s8_wd u8) (s8_ev u8) (s8_al u8) (s8_wl u8) (s6_cy u6) (s8_kp u8) (s8_nc u8) (s8_cb u8) p1 p2 (by first | assumption | omega) (hs0)) [0, 10] rfl rfl rfl rfl), fun r w h => ⟨_, h.2⟩, ?_⟩
        rintro r w r' w' ⟨rfl, rfl⟩ ⟨rfl, rfl⟩
        exact ⟨congrArg (fun z => some (Value.int z)) ((if_pos hok).trans (if_neg hs0)), Or.inr ⟨(((s6_g u6), (s6_xa u6), (s6_ra u6), (s6_caz u6), (s6_ca u6), (s6_pq u6), (s6_fl u6), (if okM p1 ((s6_cy u6) 3) then (if 0 ≤ p2 ∧ p2 ≤ nI 60 then 0 else 2) else 1)), g6_1 u6, g6_2 u6, g6_3 u6, g6_4 u6, g6_5 u6, g6_6 u6, g6_7 u6, g6_8 u6, g6_9 u6, g6_10 u6), (((s8_q u8), 0, 2, (-1), (s8_rr u8), (s8_z u8), (s8_nb u8), (s8_wa u8)), g8_1 u8, g8_2 u8, g8_3 u8, g8_4 u8), List.Perm.refl _, List.Perm.refl _, hF, hG, hP, tw_of 2 (((if_pos hok).trans (if_neg hs0)).symm) (by decide) (by decide)⟩⟩
    · refine ⟨(wrI (W6 E x (((s6_g u6), (s6_xa u6), (s6_ra u6), (s6_caz u6), (s6_ca u6), (s6_pq u6), (s6_fl u6), (if okM p1 ((s6_cy u6) 3) then (if 0 ≤ p2 ∧ p2 ≤ nI 60 then 0 else 2) else 1)), g6_1 u6, g6_2 u6, g6_3 u6, g6_4 u6, g6_5 u6, g6_6 u6, g6_7 u6, g6_8 u6, g6_9 u6, g6_10 u6)) (if okM p1 ((s6_cy u6) 3) then (if 0 ≤ p2 ∧ p2 ≤ nI 60 then nI (pop64 (kpN (s6_cy u6) (s6_Fs u6) (s6_Ft u6) (s6_t u6) (bdN (s6_ink u6) (s6_mn u6) p1 (tn p2)))) else (-1)) else (-1))), (wrI (W8c E k (((s6_g u6), (s6_xa u6), (s6_ra u6), (s6_caz u6), (s6_ca u6), (s6_pq u6), (s6_fl u6), (if okM p1 ((s6_cy u6) 3) then (if 0 ≤ p2 ∧ p2 ≤ nI 60 then 0 else 2) else 1)), g6_1 u6, g6_2 u6, g6_3 u6, g6_4 u6, g6_5 u6, g6_6 u6, g6_7 u6, g6_8 u6, g6_9 u6, g6_10 u6) (((s8_q u8), 0, 1, (-1), (s8_rr u8), (s8_z u8), (s8_nb u8), (s8_wa u8)), g8_1 u8, g8_2 u8, g8_3 u8, g8_4 u8)) ((-1))), Ct.perm hp6.symm (Ct.frI (c_X6_waysIn l E x (s6_xa u6) (s6_g u6) (s6_tr u6) (s6_fl u6) (s6_pl u6) (s6_cy u6) (s6_ca u6) (s6_Fs u6) (s6_Ft u6) (s6_hi u6) (s6_hm u6) (s6_t u6) (s6_dd u6) (s6_ink u6) (s6_mn u6) p1 p2 (by first | assumption | omega) (by first | assumption | omega) (by first | assumption | omega) (by first | assumption | omega) (by first | assumption | omega)) [0, 20, 26, 27, 36, 37, 38] rfl rfl rfl rfl), Ct.perm hp8.symm (Ct.frI (c_X8_waysIn_no1 l E k (s8_th u8) (s8_tr8 u8) (s8_wh u8) (s8_g8 u8) (s8_rr u8) (s8_q u8) (upN (upN (upN (upN (s8_z u8) 6 (s6_fd u6)) 12 (s6_fl u6)) 19 (s6_ac u6)) 20 (s6_im u6)) (s8_nb u8) (s8_wa u8) (s8_wd u8) (s8_ev u8) (s8_al u8) (s8_wl u8) (s6_cy u6) (s8_kp u8) (s8_nc u8) (s8_cb u8) p1 p2 (by first | assumption | omega)) [0, 10] rfl rfl rfl rfl), fun r w h => ⟨_, h.2⟩, ?_⟩
      rintro r w r' w' ⟨rfl, rfl⟩ ⟨rfl, rfl⟩
      exact ⟨congrArg (fun z => some (Value.int z)) (if_neg hok), Or.inr ⟨(((s6_g u6), (s6_xa u6), (s6_ra u6), (s6_caz u6), (s6_ca u6), (s6_pq u6), (s6_fl u6), (if okM p1 ((s6_cy u6) 3) then (if 0 ≤ p2 ∧ p2 ≤ nI 60 then 0 else 2) else 1)), g6_1 u6, g6_2 u6, g6_3 u6, g6_4 u6, g6_5 u6, g6_6 u6, g6_7 u6, g6_8 u6, g6_9 u6, g6_10 u6), (((s8_q u8), 0, 1, (-1), (s8_rr u8), (s8_z u8), (s8_nb u8), (s8_wa u8)), g8_1 u8, g8_2 u8, g8_3 u8, g8_4 u8), List.Perm.refl _, List.Perm.refl _, hF, hG, hP, tw_of 1 ((if_neg hok).symm) (by decide) (by decide)⟩⟩
set_option maxRecDepth 100000 in
set_option maxHeartbeats 4000000 in
theorem op_ink (l : Launch) (E : Et) (x k : Nat) (p1 : Int32) (p2 : Int32) : OpI E x k (fun w P => Ct l E yX6_ink cX6_ink 3 (some .int) 6 0 0 [.ref x, .int p1, .int p2] w P) (fun w P => Ct l E yX8_ink cX8_ink 4 (some .int) 5 0 0 [.ref k, .int p1, .int p2] w P) := by
  intro w6 w8 hv
  rcases hv with hv | hv
  · obtain ⟨u6, u8, hp6, hp8, hF, hN, hW⟩ := hv
    have hfd := hF.1
    have hby := hF.2.1
    have hkw := hF.2.2.1
    have h40z := hF.2.2.2.1
    have h40 := hF.2.2.2.2.1
    have hink2 := hF.2.2.2.2.2.1
    have hwt := hF.2.2.2.2.2.2.1
    have hdy := hF.2.2.2.2.2.2.2.1
    have hds := hF.2.2.2.2.2.2.2.2.1
    have hink := hF.2.2.2.2.2.2.2.2.2.1
    have ht := hF.2.2.2.2.2.2.2.2.2.2.1
    have ho := hF.2.2.2.2.2.2.2.2.2.2.2.1
    have hac := hF.2.2.2.2.2.2.2.2.2.2.2.2.1
    have him := hF.2.2.2.2.2.2.2.2.2.2.2.2.2.1
    have hc0 := hF.2.2.2.2.2.2.2.2.2.2.2.2.2.2.1
    have hc1 := hF.2.2.2.2.2.2.2.2.2.2.2.2.2.2.2.1
    have hc2 := hF.2.2.2.2.2.2.2.2.2.2.2.2.2.2.2.2.1
    have hc3 := hF.2.2.2.2.2.2.2.2.2.2.2.2.2.2.2.2.2.1
    have hc4 := hF.2.2.2.2.2.2.2.2.2.2.2.2.2.2.2.2.2.2.1
    have hc5 := hF.2.2.2.2.2.2.2.2.2.2.2.2.2.2.2.2.2.2.2.1
    have hc6 := hF.2.2.2.2.2.2.2.2.2.2.2.2.2.2.2.2.2.2.2.2.1
    have hc7 := hF.2.2.2.2.2.2.2.2.2.2.2.2.2.2.2.2.2.2.2.2.2
    have htr := hW.1
    have htl := hW.2.1
    have hy0 := hN.1
    have hy3 : (s6_cy u6) 3 = 0 := hy0 3 (by decide)
    have hy4 : (s6_cy u6) 4 = 0 := hy0 4 (by decide)
    have hy5 : (s6_cy u6) 5 = 0 := hy0 5 (by decide)
    have hy6 : (s6_cy u6) 6 = 0 := hy0 6 (by decide)
    obtain ⟨n1_, -, rfl⟩ := wb_of32 p1
    refine ⟨(wrI (W6 E x (((s6_g u6), (s6_xa u6), (s6_ra u6), (s6_caz u6), (s6_ca u6), (s6_pq u6), (s6_fl u6), (if okM (nI n1_) ((s6_cy u6) 5) then (if 0 ≤ p2 ∧ p2 ≤ nI 60 then 0 else 2) else 1)), g6_1 u6, g6_2 u6, g6_3 u6, g6_4 u6, g6_5 u6, g6_6 u6, g6_7 u6, g6_8 u6, g6_9 u6, g6_10 u6)) (if okM (nI n1_) ((s6_cy u6) 5) then (if 0 ≤ p2 ∧ p2 ≤ nI 60 then nI ((s6_ink u6) (tn (nI n1_)) - tn p2) else (-1)) else (-1))), (wrI (W8n E k (((s6_g u6), (s6_xa u6), (s6_ra u6), (s6_caz u6), (s6_ca u6), (s6_pq u6), (s6_fl u6), (if okM (nI n1_) ((s6_cy u6) 5) then (if 0 ≤ p2 ∧ p2 ≤ nI 60 then 0 else 2) else 1)), g6_1 u6, g6_2 u6, g6_3 u6, g6_4 u6, g6_5 u6, g6_6 u6, g6_7 u6, g6_8 u6, g6_9 u6, g6_10 u6) (((s8_q u8), 0, 1, (-1), (s8_rr u8), (s8_z u8), (s8_nb u8), (s8_wa u8)), g8_1 u8, g8_2 u8, g8_3 u8, g8_4 u8)) ((-1))), Ct.perm hp6.symm (Ct.frI (c_X6_ink l E x (s6_xa u6) (s6_g u6) (s6_tr u6) (s6_fl u6) (s6_pl u6) (s6_cy u6) (s6_ca u6) (s6_Fs u6) (s6_Ft u6) (s6_hi u6) (s6_hm u6) (s6_t u6) (s6_dd u6) (s6_ink u6) (s6_mn u6) (nI n1_) p2 (by first | assumption | omega) (by first | assumption | omega) (by first | assumption | omega) (by first | assumption | omega) (by first | assumption | omega)) [0, 20, 26, 27, 36, 37, 38] rfl rfl rfl rfl), Ct.perm hp8.symm (Ct.frI (c_X8_ink_n l E k (s8_th u8) (s8_tr8 u8) (s8_wh u8) (s8_rr u8) (s8_q u8) (upN (upN (upN (upN (s8_z u8) 6 (s6_fd u6)) 12 (s6_fl u6)) 19 (s6_ac u6)) 20 (s6_im u6)) (s8_nb u8) (s8_wa u8) (s8_wd u8) (s8_ev u8) (s8_al u8) (s8_wl u8) n1_ p2 ) [0] rfl rfl rfl rfl), fun r w h => ⟨_, h.2⟩, ?_⟩
    rintro r w r' w' ⟨rfl, rfl⟩ ⟨rfl, rfl⟩
    exact ⟨congrArg (fun z => some (Value.int z)) (if_neg (okM_0 hy5)), Or.inl ⟨(((s6_g u6), (s6_xa u6), (s6_ra u6), (s6_caz u6), (s6_ca u6), (s6_pq u6), (s6_fl u6), (if okM (nI n1_) ((s6_cy u6) 5) then (if 0 ≤ p2 ∧ p2 ≤ nI 60 then 0 else 2) else 1)), g6_1 u6, g6_2 u6, g6_3 u6, g6_4 u6, g6_5 u6, g6_6 u6, g6_7 u6, g6_8 u6, g6_9 u6, g6_10 u6), (((s8_q u8), 0, 1, (-1), (s8_rr u8), (s8_z u8), (s8_nb u8), (s8_wa u8)), g8_1 u8, g8_2 u8, g8_3 u8, g8_4 u8), List.Perm.refl _, List.Perm.refl _, hF, hN, tw_of 1 ((if_neg (okM_0 hy5)).symm) (by decide) (by decide)⟩⟩
  · obtain ⟨u6, u8, hp6, hp8, hF, hG, hP, hW⟩ := hv
    have hfd := hF.1
    have hby := hF.2.1
    have hkw := hF.2.2.1
    have h40z := hF.2.2.2.1
    have h40 := hF.2.2.2.2.1
    have hink2 := hF.2.2.2.2.2.1
    have hwt := hF.2.2.2.2.2.2.1
    have hdy := hF.2.2.2.2.2.2.2.1
    have hds := hF.2.2.2.2.2.2.2.2.1
    have hink := hF.2.2.2.2.2.2.2.2.2.1
    have ht := hF.2.2.2.2.2.2.2.2.2.2.1
    have ho := hF.2.2.2.2.2.2.2.2.2.2.2.1
    have hac := hF.2.2.2.2.2.2.2.2.2.2.2.2.1
    have him := hF.2.2.2.2.2.2.2.2.2.2.2.2.2.1
    have hc0 := hF.2.2.2.2.2.2.2.2.2.2.2.2.2.2.1
    have hc1 := hF.2.2.2.2.2.2.2.2.2.2.2.2.2.2.2.1
    have hc2 := hF.2.2.2.2.2.2.2.2.2.2.2.2.2.2.2.2.1
    have hc3 := hF.2.2.2.2.2.2.2.2.2.2.2.2.2.2.2.2.2.1
    have hc4 := hF.2.2.2.2.2.2.2.2.2.2.2.2.2.2.2.2.2.2.1
    have hc5 := hF.2.2.2.2.2.2.2.2.2.2.2.2.2.2.2.2.2.2.2.1
    have hc6 := hF.2.2.2.2.2.2.2.2.2.2.2.2.2.2.2.2.2.2.2.2.1
    have hc7 := hF.2.2.2.2.2.2.2.2.2.2.2.2.2.2.2.2.2.2.2.2.2
    have htr := hW.1
    have htl := hW.2.1
    have hgb := g8_b hc4 hc5 hc7 hG
    have hfo := hgb.1
    have hon := hgb.2.1
    have htw := hgb.2.2.1
    have hFs := hgb.2.2.2.1
    have hFt := hgb.2.2.2.2.1
    have hik := hgb.2.2.2.2.2.1
    have hun := hgb.2.2.2.2.2.2.1
    have hdi := hgb.2.2.2.2.2.2.2.1
    have hd2 := hgb.2.2.2.2.2.2.2.2.1
    have hd3 := hgb.2.2.2.2.2.2.2.2.2.1
    have hkp := hgb.2.2.2.2.2.2.2.2.2.2.1
    have hm1 := hgb.2.2.2.2.2.2.2.2.2.2.2.1
    have hal_ := hgb.2.2.2.2.2.2.2.2.2.2.2.2
    have hal := hal_ (s6_t u6)
    have hz : ∀ c, (s6_cy u6) 5 ≤ c → (s6_ink u6) c = 0 := hP.1.2.1
    have hmz : ∀ c, (s6_cy u6) 5 ≤ c → (s6_mn u6) c = -1 := hP.1.2.2.1
    have hdd9 : (s6_dd u6) ≤ 999 := hP.1.2.2.2.2
    have hw8 := w8_e hG
    have h30 : ¬ (s6_cy u6) 3 = 0 := by omega
    by_cases hok : okM p1 ((s6_cy u6) 5)
    · obtain ⟨c0, hc0c, rfl⟩ := okM_nat hok (by omega)
      have hc31 : c0 < 2 ^ 31 := by omega
      by_cases hs0 : 0 ≤ p2 ∧ p2 ≤ nI 60
      · obtain ⟨d0, hd0, rfl⟩ := rg_nat (by decide) hs0
        have hd31 : d0 < 2 ^ 31 := by omega
        refine ⟨(wrI (W6 E x (((s6_g u6), (s6_xa u6), (s6_ra u6), (s6_caz u6), (s6_ca u6), (s6_pq u6), (s6_fl u6), (if okM (nI c0) ((s6_cy u6) 5) then (if 0 ≤ (nI d0) ∧ (nI d0) ≤ nI 60 then 0 else 2) else 1)), g6_1 u6, g6_2 u6, g6_3 u6, g6_4 u6, g6_5 u6, g6_6 u6, g6_7 u6, g6_8 u6, g6_9 u6, g6_10 u6)) (if okM (nI c0) ((s6_cy u6) 5) then (if 0 ≤ (nI d0) ∧ (nI d0) ≤ nI 60 then nI ((s6_ink u6) (tn (nI c0)) - tn (nI d0)) else (-1)) else (-1))), (wrI (W8c E k (((s6_g u6), (s6_xa u6), (s6_ra u6), (s6_caz u6), (s6_ca u6), (s6_pq u6), (s6_fl u6), (if okM (nI c0) ((s6_cy u6) 5) then (if 0 ≤ (nI d0) ∧ (nI d0) ≤ nI 60 then 0 else 2) else 1)), g6_1 u6, g6_2 u6, g6_3 u6, g6_4 u6, g6_5 u6, g6_6 u6, g6_7 u6, g6_8 u6, g6_9 u6, g6_10 u6) (((s8_q u8), 0, 0, (-1), (s8_rr u8), (s8_z u8), (s8_nb u8), (s8_wa u8)), ((s8_wd u8), (allS ((s6_cy u6) 4)), (s8_al u8), (s8_wl u8), (xF (s6_mn u6) (fun c0 => (s6_ink u6) c0 - d0) (s6_t u6) ((s6_dd u6) + d0)), (s8_pp u8), (s8_pj8 u8), (lyF (s6_Fs u6) (s6_Ft u6) (s6_t u6) ((s6_cy u6) 4) (s8_ke u8) ((s6_cy u6) 5))), g8_2 u8, g8_3 u8, g8_4 u8)) (nI ((s6_ink u6) c0 - d0))), Ct.perm hp6.symm (Ct.frI (c_X6_ink l E x (s6_xa u6) (s6_g u6) (s6_tr u6) (s6_fl u6) (s6_pl u6) (s6_cy u6) (s6_ca u6) (s6_Fs u6) (s6_Ft u6) (s6_hi u6) (s6_hm u6) (s6_t u6) (s6_dd u6) (s6_ink u6) (s6_mn u6) (nI c0) (nI d0) (by first | assumption | omega) (by first | assumption | omega) (by first | assumption | omega) (by first | assumption | omega) (by first | assumption | omega)) [0, 20, 26, 27, 36, 37, 38] rfl rfl rfl rfl), Ct.perm hp8.symm (Ct.frI (c_X8_ink l E k (s8_th u8) (s8_tr8 u8) (s8_wh u8) (s8_g8 u8) (s8_rr u8) (s8_q u8) (upN (upN (upN (upN (s8_z u8) 6 (s6_fd u6)) 12 (s6_fl u6)) 19 (s6_ac u6)) 20 (s6_im u6)) (s8_nb u8) (s8_wa u8) (s8_wd u8) (s8_ev u8) (s8_al u8) (s8_wl u8) (s6_cy u6) (s8_kp u8) (s8_nc u8) (s8_cb u8) (s8_gf u8) (s8_go_ u8) (s8_gt_ u8) (s8_xf u8) (s6_mn u6) (s6_ink u6) (s6_t u6) (s6_dd u6) (s6_Fs u6) (s6_Ft u6) (s8_ke u8) c0 d0 (by first | assumption | omega) (by first | assumption | omega) (by first | assumption | omega) (by first | assumption | omega) (by first | assumption | omega) (by first | assumption | omega) (by first | assumption | omega) (by first | assumption | omega) (by first | assumption | omega) (by first | assumption | omega) (by first | assumption | omega) (by first | assumption | omega)) [0, 10, 13, 14, 15, 2, 3, 6] rfl rfl rfl rfl), fun r w h => ⟨_, h.2⟩, ?_⟩
        rintro r w r' w' ⟨rfl, rfl⟩ ⟨rfl, rfl⟩
        exact ⟨congrArg (fun z => some (Value.int z)) ((if_pos hok).trans ((if_pos hs0).trans (by rw [tn_n hc31, tn_n hd31]))), Or.inr ⟨(((s6_g u6), (s6_xa u6), (s6_ra u6), (s6_caz u6), (s6_ca u6), (s6_pq u6), (s6_fl u6), (if okM (nI c0) ((s6_cy u6) 5) then (if 0 ≤ (nI d0) ∧ (nI d0) ≤ nI 60 then 0 else 2) else 1)), g6_1 u6, g6_2 u6, g6_3 u6, g6_4 u6, g6_5 u6, g6_6 u6, g6_7 u6, g6_8 u6, g6_9 u6, g6_10 u6), (((s8_q u8), 0, 0, (-1), (s8_rr u8), (s8_z u8), (s8_nb u8), (s8_wa u8)), ((s8_wd u8), (allS ((s6_cy u6) 4)), (s8_al u8), (s8_wl u8), (xF (s6_mn u6) (fun c0 => (s6_ink u6) c0 - d0) (s6_t u6) ((s6_dd u6) + d0)), (s8_pp u8), (s8_pj8 u8), (lyF (s6_Fs u6) (s6_Ft u6) (s6_t u6) ((s6_cy u6) 4) (s8_ke u8) ((s6_cy u6) 5))), g8_2 u8, g8_3 u8, g8_4 u8), List.Perm.refl _, List.Perm.refl _, hF, hG, hP, tw_of 0 (((if_pos hok).trans (if_pos hs0)).symm) (by decide) (by decide)⟩⟩
      · refine ⟨(wrI (W6 E x (((s6_g u6), (s6_xa u6), (s6_ra u6), (s6_caz u6), (s6_ca u6), (s6_pq u6), (s6_fl u6), (if okM (nI c0) ((s6_cy u6) 5) then (if 0 ≤ p2 ∧ p2 ≤ nI 60 then 0 else 2) else 1)), g6_1 u6, g6_2 u6, g6_3 u6, g6_4 u6, g6_5 u6, g6_6 u6, g6_7 u6, g6_8 u6, g6_9 u6, g6_10 u6)) (if okM (nI c0) ((s6_cy u6) 5) then (if 0 ≤ p2 ∧ p2 ≤ nI 60 then nI ((s6_ink u6) (tn (nI c0)) - tn p2) else (-1)) else (-1))), (wrI (W8c E k (((s6_g u6), (s6_xa u6), (s6_ra u6), (s6_caz u6), (s6_ca u6), (s6_pq u6), (s6_fl u6), (if okM (nI c0) ((s6_cy u6) 5) then (if 0 ≤ p2 ∧ p2 ≤ nI 60 then 0 else 2) else 1)), g6_1 u6, g6_2 u6, g6_3 u6, g6_4 u6, g6_5 u6, g6_6 u6, g6_7 u6, g6_8 u6, g6_9 u6, g6_10 u6) (((s8_q u8), 0, 2, (-1), (s8_rr u8), (s8_z u8), (s8_nb u8), (s8_wa u8)), g8_1 u8, g8_2 u8, g8_3 u8, g8_4 u8)) ((-1))), Ct.perm hp6.symm (Ct.frI (c_X6_ink l E x (s6_xa u6) (s6_g u6) (s6_tr u6) (s6_fl u6) (s6_pl u6) (s6_cy u6) (s6_ca u6) (s6_Fs u6) (s6_Ft u6) (s6_hi u6) (s6_hm u6) (s6_t u6) (s6_dd u6) (s6_ink u6) (s6_mn u6) (nI c0) p2 (by first | assumption | omega) (by first | assumption | omega) (by first | assumption | omega) (by first | assumption | omega) (by first | assumption | omega)) [0, 20, 26, 27, 36, 37, 38] rfl rfl rfl rfl), Ct.perm hp8.symm (Ct.frI (c_X8_ink_no2 l E k (s8_th u8) (s8_tr8 u8) (s8_wh u8) (s8_g8 u8) (s8_rr u8) (s8_q u8) (upN (upN (upN (upN (s8_z u8) 6 (s6_fd u6)) 12 (s6_fl u6)) 19 (s6_ac u6)) 20 (s6_im u6)) (s8_nb u8) (s8_wa u8) (s8_wd u8) (s8_ev u8) (s8_al u8) (s8_wl u8) (s6_cy u6) (s8_kp u8) (s8_nc u8) (s8_cb u8) c0 p2 (by first | assumption | omega) (hs0)) [0, 10] rfl rfl rfl rfl), fun r w h => ⟨_, h.2⟩, ?_⟩
        rintro r w r' w' ⟨rfl, rfl⟩ ⟨rfl, rfl⟩
        exact ⟨congrArg (fun z => some (Value.int z)) ((if_pos hok).trans (if_neg hs0)), Or.inr ⟨(((s6_g u6), (s6_xa u6), (s6_ra u6), (s6_caz u6), (s6_ca u6), (s6_pq u6), (s6_fl u6), (if okM (nI c0) ((s6_cy u6) 5) then (if 0 ≤ p2 ∧ p2 ≤ nI 60 then 0 else 2) else 1)), g6_1 u6, g6_2 u6, g6_3 u6, g6_4 u6, g6_5 u6, g6_6 u6, g6_7 u6, g6_8 u6, g6_9 u6, g6_10 u6), (((s8_q u8), 0, 2, (-1), (s8_rr u8), (s8_z u8), (s8_nb u8), (s8_wa u8)), g8_1 u8, g8_2 u8, g8_3 u8, g8_4 u8), List.Perm.refl _, List.Perm.refl _, hF, hG, hP, tw_of 2 (((if_pos hok).trans (if_neg hs0)).symm) (by decide) (by decide)⟩⟩
    · obtain ⟨n1_, -, rfl⟩ := wb_of32 p1
      refine ⟨(wrI (W6 E x (((s6_g u6), (s6_xa u6), (s6_ra u6), (s6_caz u6), (s6_ca u6), (s6_pq u6), (s6_fl u6), (if okM (nI n1_) ((s6_cy u6) 5) then (if 0 ≤ p2 ∧ p2 ≤ nI 60 then 0 else 2) else 1)), g6_1 u6, g6_2 u6, g6_3 u6, g6_4 u6, g6_5 u6, g6_6 u6, g6_7 u6, g6_8 u6, g6_9 u6, g6_10 u6)) (if okM (nI n1_) ((s6_cy u6) 5) then (if 0 ≤ p2 ∧ p2 ≤ nI 60 then nI ((s6_ink u6) (tn (nI n1_)) - tn p2) else (-1)) else (-1))), (wrI (W8c E k (((s6_g u6), (s6_xa u6), (s6_ra u6), (s6_caz u6), (s6_ca u6), (s6_pq u6), (s6_fl u6), (if okM (nI n1_) ((s6_cy u6) 5) then (if 0 ≤ p2 ∧ p2 ≤ nI 60 then 0 else 2) else 1)), g6_1 u6, g6_2 u6, g6_3 u6, g6_4 u6, g6_5 u6, g6_6 u6, g6_7 u6, g6_8 u6, g6_9 u6, g6_10 u6) (((s8_q u8), 0, 1, (-1), (s8_rr u8), (s8_z u8), (s8_nb u8), (s8_wa u8)), g8_1 u8, g8_2 u8, g8_3 u8, g8_4 u8)) ((-1))), Ct.perm hp6.symm (Ct.frI (c_X6_ink l E x (s6_xa u6) (s6_g u6) (s6_tr u6) (s6_fl u6) (s6_pl u6) (s6_cy u6) (s6_ca u6) (s6_Fs u6) (s6_Ft u6) (s6_hi u6) (s6_hm u6) (s6_t u6) (s6_dd u6) (s6_ink u6) (s6_mn u6) (nI n1_) p2 (by first | assumption | omega) (by first | assumption | omega) (by first | assumption | omega) (by first | assumption | omega) (by first | assumption | omega)) [0, 20, 26, 27, 36, 37, 38] rfl rfl rfl rfl), Ct.perm hp8.symm (Ct.frI (c_X8_ink_no1 l E k (s8_th u8) (s8_tr8 u8) (s8_wh u8) (s8_g8 u8) (s8_rr u8) (s8_q u8) (upN (upN (upN (upN (s8_z u8) 6 (s6_fd u6)) 12 (s6_fl u6)) 19 (s6_ac u6)) 20 (s6_im u6)) (s8_nb u8) (s8_wa u8) (s8_wd u8) (s8_ev u8) (s8_al u8) (s8_wl u8) (s6_cy u6) (s8_kp u8) (s8_nc u8) (s8_cb u8) n1_ p2 (by first | assumption | omega)) [0, 10] rfl rfl rfl rfl), fun r w h => ⟨_, h.2⟩, ?_⟩
      rintro r w r' w' ⟨rfl, rfl⟩ ⟨rfl, rfl⟩
      exact ⟨congrArg (fun z => some (Value.int z)) (if_neg hok), Or.inr ⟨(((s6_g u6), (s6_xa u6), (s6_ra u6), (s6_caz u6), (s6_ca u6), (s6_pq u6), (s6_fl u6), (if okM (nI n1_) ((s6_cy u6) 5) then (if 0 ≤ p2 ∧ p2 ≤ nI 60 then 0 else 2) else 1)), g6_1 u6, g6_2 u6, g6_3 u6, g6_4 u6, g6_5 u6, g6_6 u6, g6_7 u6, g6_8 u6, g6_9 u6, g6_10 u6), (((s8_q u8), 0, 1, (-1), (s8_rr u8), (s8_z u8), (s8_nb u8), (s8_wa u8)), g8_1 u8, g8_2 u8, g8_3 u8, g8_4 u8), List.Perm.refl _, List.Perm.refl _, hF, hG, hP, tw_of 1 ((if_neg hok).symm) (by decide) (by decide)⟩⟩
set_option maxRecDepth 100000 in
set_option maxHeartbeats 4000000 in
theorem op_clause (l : Launch) (E : Et) (x k : Nat) (p1 : Int32) (p2 : Int32) : OpI E x k (fun w P => Ct l E yX6_clause cX6_clause 3 (some .int) 6 0 0 [.ref x, .int p1, .int p2] w P) (fun w P => Ct l E yX8_clause cX8_clause 3 (some .int) 5 0 0 [.ref k, .int p1, .int p2] w P) := by
  intro w6 w8 hv
  rcases hv with hv | hv
  · obtain ⟨u6, u8, hp6, hp8, hF, hN, hW⟩ := hv
    have hfd := hF.1
    have hby := hF.2.1
    have hkw := hF.2.2.1
    have h40z := hF.2.2.2.1
    have h40 := hF.2.2.2.2.1
    have hink2 := hF.2.2.2.2.2.1
    have hwt := hF.2.2.2.2.2.2.1
    have hdy := hF.2.2.2.2.2.2.2.1
    have hds := hF.2.2.2.2.2.2.2.2.1
    have hink := hF.2.2.2.2.2.2.2.2.2.1
    have ht := hF.2.2.2.2.2.2.2.2.2.2.1
    have ho := hF.2.2.2.2.2.2.2.2.2.2.2.1
    have hac := hF.2.2.2.2.2.2.2.2.2.2.2.2.1
    have him := hF.2.2.2.2.2.2.2.2.2.2.2.2.2.1
    have hc0 := hF.2.2.2.2.2.2.2.2.2.2.2.2.2.2.1
    have hc1 := hF.2.2.2.2.2.2.2.2.2.2.2.2.2.2.2.1
    have hc2 := hF.2.2.2.2.2.2.2.2.2.2.2.2.2.2.2.2.1
    have hc3 := hF.2.2.2.2.2.2.2.2.2.2.2.2.2.2.2.2.2.1
    have hc4 := hF.2.2.2.2.2.2.2.2.2.2.2.2.2.2.2.2.2.2.1
    have hc5 := hF.2.2.2.2.2.2.2.2.2.2.2.2.2.2.2.2.2.2.2.1
    have hc6 := hF.2.2.2.2.2.2.2.2.2.2.2.2.2.2.2.2.2.2.2.2.1
    have hc7 := hF.2.2.2.2.2.2.2.2.2.2.2.2.2.2.2.2.2.2.2.2.2
    have htr := hW.1
    have htl := hW.2.1
    have hy0 := hN.1
    have hy3 : (s6_cy u6) 3 = 0 := hy0 3 (by decide)
    have hy4 : (s6_cy u6) 4 = 0 := hy0 4 (by decide)
    have hy5 : (s6_cy u6) 5 = 0 := hy0 5 (by decide)
    have hy6 : (s6_cy u6) 6 = 0 := hy0 6 (by decide)
    refine ⟨(wrI (W6 E x (((s6_g u6), (s6_xa u6), (s6_ra u6), (s6_caz u6), (s6_ca u6), (s6_pq u6), (s6_fl u6), (if okM p1 ((s6_cy u6) 5) ∧ ¬ (p2.toInt < 0 ∨ (6 : Int) < p2.toInt) then 0 else 1)), g6_1 u6, g6_2 u6, g6_3 u6, g6_4 u6, g6_5 u6, g6_6 u6, g6_7 u6, g6_8 u6, g6_9 u6, g6_10 u6)) (if okM p1 ((s6_cy u6) 5) then (if p2.toInt < 0 ∨ (6 : Int) < p2.toInt then (-1) else clV (s6_f0 u6) (s6_f1 u6) (s6_f2 u6) (s6_mn u6) (s6_ink u6) (s6_f4 u6) (s6_t u6) (tn p1) (tn p2)) else (-1))), (wrI (W8n E k (((s6_g u6), (s6_xa u6), (s6_ra u6), (s6_caz u6), (s6_ca u6), (s6_pq u6), (s6_fl u6), (if okM p1 ((s6_cy u6) 5) ∧ ¬ (p2.toInt < 0 ∨ (6 : Int) < p2.toInt) then 0 else 1)), g6_1 u6, g6_2 u6, g6_3 u6, g6_4 u6, g6_5 u6, g6_6 u6, g6_7 u6, g6_8 u6, g6_9 u6, g6_10 u6) (((s8_q u8), 0, 1, (-1), (s8_rr u8), (s8_z u8), (s8_nb u8), (s8_wa u8)), g8_1 u8, g8_2 u8, g8_3 u8, g8_4 u8)) ((-1))), Ct.perm hp6.symm (Ct.frI (c_X6_clause l E x (s6_xa u6) (s6_g u6) (s6_tr u6) (s6_fl u6) (s6_pl u6) (s6_cy u6) (s6_ca u6) (s6_f0 u6) (s6_f1 u6) (s6_f2 u6) (s6_f4 u6) (s6_hi u6) (s6_hm u6) (s6_t u6) (s6_dd u6) (s6_ink u6) (s6_mn u6) p1 p2 (by first | assumption | omega) (by first | assumption | omega)) [0, 20, 21, 22, 23, 25, 36, 37, 38] rfl rfl rfl rfl), Ct.perm hp8.symm (Ct.frI (c_X8_clause_n l E k (s8_th u8) (s8_tr8 u8) (s8_wh u8) (s8_rr u8) (s8_q u8) (upN (upN (upN (upN (s8_z u8) 6 (s6_fd u6)) 12 (s6_fl u6)) 19 (s6_ac u6)) 20 (s6_im u6)) (s8_nb u8) (s8_wa u8) (s8_wd u8) (s8_ev u8) (s8_al u8) (s8_wl u8) p1 p2 ) [0] rfl rfl rfl rfl), fun r w h => ⟨_, h.2⟩, ?_⟩
    rintro r w r' w' ⟨rfl, rfl⟩ ⟨rfl, rfl⟩
    exact ⟨congrArg (fun z => some (Value.int z)) (if_neg (okM_0 hy5)), Or.inl ⟨(((s6_g u6), (s6_xa u6), (s6_ra u6), (s6_caz u6), (s6_ca u6), (s6_pq u6), (s6_fl u6), (if okM p1 ((s6_cy u6) 5) ∧ ¬ (p2.toInt < 0 ∨ (6 : Int) < p2.toInt) then 0 else 1)), g6_1 u6, g6_2 u6, g6_3 u6, g6_4 u6, g6_5 u6, g6_6 u6, g6_7 u6, g6_8 u6, g6_9 u6, g6_10 u6), (((s8_q u8), 0, 1, (-1), (s8_rr u8), (s8_z u8), (s8_nb u8), (s8_wa u8)), g8_1 u8, g8_2 u8, g8_3 u8, g8_4 u8), List.Perm.refl _, List.Perm.refl _, hF, hN, tw_of 1 ((if_neg (fun z => okM_0 hy5 z.1)).symm) (by decide) (by decide)⟩⟩
  · obtain ⟨u6, u8, hp6, hp8, hF, hG, hP, hW⟩ := hv
    have hfd := hF.1
    have hby := hF.2.1
    have hkw := hF.2.2.1
    have h40z := hF.2.2.2.1
    have h40 := hF.2.2.2.2.1
    have hink2 := hF.2.2.2.2.2.1
    have hwt := hF.2.2.2.2.2.2.1
    have hdy := hF.2.2.2.2.2.2.2.1
    have hds := hF.2.2.2.2.2.2.2.2.1
    have hink := hF.2.2.2.2.2.2.2.2.2.1
    have ht := hF.2.2.2.2.2.2.2.2.2.2.1
    have ho := hF.2.2.2.2.2.2.2.2.2.2.2.1
    have hac := hF.2.2.2.2.2.2.2.2.2.2.2.2.1
    have him := hF.2.2.2.2.2.2.2.2.2.2.2.2.2.1
    have hc0 := hF.2.2.2.2.2.2.2.2.2.2.2.2.2.2.1
    have hc1 := hF.2.2.2.2.2.2.2.2.2.2.2.2.2.2.2.1
    have hc2 := hF.2.2.2.2.2.2.2.2.2.2.2.2.2.2.2.2.1
    have hc3 := hF.2.2.2.2.2.2.2.2.2.2.2.2.2.2.2.2.2.1
    have hc4 := hF.2.2.2.2.2.2.2.2.2.2.2.2.2.2.2.2.2.2.1
    have hc5 := hF.2.2.2.2.2.2.2.2.2.2.2.2.2.2.2.2.2.2.2.1
    have hc6 := hF.2.2.2.2.2.2.2.2.2.2.2.2.2.2.2.2.2.2.2.2.1
    have hc7 := hF.2.2.2.2.2.2.2.2.2.2.2.2.2.2.2.2.2.2.2.2.2
    have htr := hW.1
    have htl := hW.2.1
    have hgb := g8_b hc4 hc5 hc7 hG
    have hfo := hgb.1
    have hon := hgb.2.1
    have htw := hgb.2.2.1
    have hFs := hgb.2.2.2.1
    have hFt := hgb.2.2.2.2.1
    have hik := hgb.2.2.2.2.2.1
    have hun := hgb.2.2.2.2.2.2.1
    have hdi := hgb.2.2.2.2.2.2.2.1
    have hd2 := hgb.2.2.2.2.2.2.2.2.1
    have hd3 := hgb.2.2.2.2.2.2.2.2.2.1
    have hkp := hgb.2.2.2.2.2.2.2.2.2.2.1
    have hm1 := hgb.2.2.2.2.2.2.2.2.2.2.2.1
    have hal_ := hgb.2.2.2.2.2.2.2.2.2.2.2.2
    have hal := hal_ (s6_t u6)
    have hz : ∀ c, (s6_cy u6) 5 ≤ c → (s6_ink u6) c = 0 := hP.1.2.1
    have hmz : ∀ c, (s6_cy u6) 5 ≤ c → (s6_mn u6) c = -1 := hP.1.2.2.1
    have hdd9 : (s6_dd u6) ≤ 999 := hP.1.2.2.2.2
    have hw8 := w8_e hG
    have h30 : ¬ (s6_cy u6) 3 = 0 := by omega
    by_cases hok : okM p1 ((s6_cy u6) 5)
    · by_cases hs0 : 0 ≤ p2 ∧ p2 ≤ nI 6
      · obtain ⟨c0, hc0c, rfl⟩ := okM_nat hok (by omega)
        have hc31 : c0 < 2 ^ 31 := by omega
        have hs1 := hs0
        obtain ⟨d0, hd0, rfl⟩ := rg_nat (by decide) hs0
        have hd31 : d0 < 2 ^ 31 := by omega
        refine ⟨(wrI (W6 E x (((s6_g u6), (s6_xa u6), (s6_ra u6), (s6_caz u6), (s6_ca u6), (s6_pq u6), (s6_fl u6), (if okM (nI c0) ((s6_cy u6) 5) ∧ ¬ ((nI d0).toInt < 0 ∨ (6 : Int) < (nI d0).toInt) then 0 else 1)), g6_1 u6, g6_2 u6, g6_3 u6, g6_4 u6, g6_5 u6, g6_6 u6, g6_7 u6, g6_8 u6, g6_9 u6, g6_10 u6)) (if okM (nI c0) ((s6_cy u6) 5) then (if (nI d0).toInt < 0 ∨ (6 : Int) < (nI d0).toInt then (-1) else clV (s6_f0 u6) (s6_f1 u6) (s6_f2 u6) (s6_mn u6) (s6_ink u6) (s6_f4 u6) (s6_t u6) (tn (nI c0)) (tn (nI d0))) else (-1))), (wrI (W8c E k (((s6_g u6), (s6_xa u6), (s6_ra u6), (s6_caz u6), (s6_ca u6), (s6_pq u6), (s6_fl u6), (if okM (nI c0) ((s6_cy u6) 5) ∧ ¬ ((nI d0).toInt < 0 ∨ (6 : Int) < (nI d0).toInt) then 0 else 1)), g6_1 u6, g6_2 u6, g6_3 u6, g6_4 u6, g6_5 u6, g6_6 u6, g6_7 u6, g6_8 u6, g6_9 u6, g6_10 u6) (((s8_q u8), 0, 0, (-1), (s8_rr u8), (s8_z u8), (s8_nb u8), (s8_wa u8)), g8_1 u8, g8_2 u8, g8_3 u8, g8_4 u8)) (clV (s8_gf u8) (s8_go_ u8) (s8_gt_ u8) (s6_mn u6) (s6_ink u6) (s8_gi u8) (s6_t u6) c0 d0)), Ct.perm hp6.symm (Ct.frI (c_X6_clause l E x (s6_xa u6) (s6_g u6) (s6_tr u6) (s6_fl u6) (s6_pl u6) (s6_cy u6) (s6_ca u6) (s6_f0 u6) (s6_f1 u6) (s6_f2 u6) (s6_f4 u6) (s6_hi u6) (s6_hm u6) (s6_t u6) (s6_dd u6) (s6_ink u6) (s6_mn u6) (nI c0) (nI d0) (by first | assumption | omega) (by first | assumption | omega)) [0, 20, 21, 22, 23, 25, 36, 37, 38] rfl rfl rfl rfl), Ct.perm hp8.symm (Ct.frI (c_X8_clause l E k (s8_th u8) (s8_tr8 u8) (s8_wh u8) (s8_g8 u8) (s8_rr u8) (s8_q u8) (upN (upN (upN (upN (s8_z u8) 6 (s6_fd u6)) 12 (s6_fl u6)) 19 (s6_ac u6)) 20 (s6_im u6)) (s8_nb u8) (s8_wa u8) (s8_wd u8) (s8_ev u8) (s8_al u8) (s8_wl u8) (s6_cy u6) (s8_kp u8) (s8_nc u8) (s8_cb u8) (s8_gf u8) (s8_go_ u8) (s8_gt_ u8) (s8_gi u8) (s6_mn u6) (s6_ink u6) (s6_t u6) (s6_dd u6) c0 d0 (by first | assumption | omega) (by first | assumption | omega) (by first | assumption | omega)) [0, 10, 13, 14, 15, 12, 2] rfl rfl rfl rfl), fun r w h => ⟨_, h.2⟩, ?_⟩
        rintro r w r' w' ⟨rfl, rfl⟩ ⟨rfl, rfl⟩
        exact ⟨congrArg (fun z => some (Value.int z)) ((if_pos hok).trans ((if_neg (fun z => (ti_e (n := 6) (by decide)).mp z hs1)).trans (by rw [tn_n hc31, tn_n hd31]; exact cl_e ⟨(hG.2.2.2.2.1 c0 hc0c).2.1, (hG.2.2.2.2.1 c0 hc0c).2.2.1, (hG.2.2.2.2.1 c0 hc0c).2.2.2.1, (hG.2.2.2.2.1 c0 hc0c).2.2.2.2⟩))), Or.inr ⟨(((s6_g u6), (s6_xa u6), (s6_ra u6), (s6_caz u6), (s6_ca u6), (s6_pq u6), (s6_fl u6), (if okM (nI c0) ((s6_cy u6) 5) ∧ ¬ ((nI d0).toInt < 0 ∨ (6 : Int) < (nI d0).toInt) then 0 else 1)), g6_1 u6, g6_2 u6, g6_3 u6, g6_4 u6, g6_5 u6, g6_6 u6, g6_7 u6, g6_8 u6, g6_9 u6, g6_10 u6), (((s8_q u8), 0, 0, (-1), (s8_rr u8), (s8_z u8), (s8_nb u8), (s8_wa u8)), g8_1 u8, g8_2 u8, g8_3 u8, g8_4 u8), List.Perm.refl _, List.Perm.refl _, hF, hG, hP, tw_of 0 ((if_pos ⟨hok, fun z => (ti_e (n := 6) (by decide)).mp z hs1⟩).symm) (by decide) (by decide)⟩⟩
      · refine ⟨(wrI (W6 E x (((s6_g u6), (s6_xa u6), (s6_ra u6), (s6_caz u6), (s6_ca u6), (s6_pq u6), (s6_fl u6), (if okM p1 ((s6_cy u6) 5) ∧ ¬ (p2.toInt < 0 ∨ (6 : Int) < p2.toInt) then 0 else 1)), g6_1 u6, g6_2 u6, g6_3 u6, g6_4 u6, g6_5 u6, g6_6 u6, g6_7 u6, g6_8 u6, g6_9 u6, g6_10 u6)) (if okM p1 ((s6_cy u6) 5) then (if p2.toInt < 0 ∨ (6 : Int) < p2.toInt then (-1) else clV (s6_f0 u6) (s6_f1 u6) (s6_f2 u6) (s6_mn u6) (s6_ink u6) (s6_f4 u6) (s6_t u6) (tn p1) (tn p2)) else (-1))), (wrI (W8c E k (((s6_g u6), (s6_xa u6), (s6_ra u6), (s6_caz u6), (s6_ca u6), (s6_pq u6), (s6_fl u6), (if okM p1 ((s6_cy u6) 5) ∧ ¬ (p2.toInt < 0 ∨ (6 : Int) < p2.toInt) then 0 else 1)), g6_1 u6, g6_2 u6, g6_3 u6, g6_4 u6, g6_5 u6, g6_6 u6, g6_7 u6, g6_8 u6, g6_9 u6, g6_10 u6) (((s8_q u8), 0, 1, (-1), (s8_rr u8), (s8_z u8), (s8_nb u8), (s8_wa u8)), g8_1 u8, g8_2 u8, g8_3 u8, g8_4 u8)) ((-1))), Ct.perm hp6.symm (Ct.frI (c_X6_clause l E x (s6_xa u6) (s6_g u6) (s6_tr u6) (s6_fl u6) (s6_pl u6) (s6_cy u6) (s6_ca u6) (s6_f0 u6) (s6_f1 u6) (s6_f2 u6) (s6_f4 u6) (s6_hi u6) (s6_hm u6) (s6_t u6) (s6_dd u6) (s6_ink u6) (s6_mn u6) p1 p2 (by first | assumption | omega) (by first | assumption | omega)) [0, 20, 21, 22, 23, 25, 36, 37, 38] rfl rfl rfl rfl), Ct.perm hp8.symm (Ct.frI (c_X8_clause_no l E k (s8_th u8) (s8_tr8 u8) (s8_wh u8) (s8_g8 u8) (s8_rr u8) (s8_q u8) (upN (upN (upN (upN (s8_z u8) 6 (s6_fd u6)) 12 (s6_fl u6)) 19 (s6_ac u6)) 20 (s6_im u6)) (s8_nb u8) (s8_wa u8) (s8_wd u8) (s8_ev u8) (s8_al u8) (s8_wl u8) (s6_cy u6) (s8_kp u8) (s8_nc u8) (s8_cb u8) p1 p2 (fun z => hs0 z.2)) [0, 10] rfl rfl rfl rfl), fun r w h => ⟨_, h.2⟩, ?_⟩
        rintro r w r' w' ⟨rfl, rfl⟩ ⟨rfl, rfl⟩
        exact ⟨congrArg (fun z => some (Value.int z)) ((if_pos hok).trans (if_pos ((ti_e (n := 6) (by decide)).mpr hs0))), Or.inr ⟨(((s6_g u6), (s6_xa u6), (s6_ra u6), (s6_caz u6), (s6_ca u6), (s6_pq u6), (s6_fl u6), (if okM p1 ((s6_cy u6) 5) ∧ ¬ (p2.toInt < 0 ∨ (6 : Int) < p2.toInt) then 0 else 1)), g6_1 u6, g6_2 u6, g6_3 u6, g6_4 u6, g6_5 u6, g6_6 u6, g6_7 u6, g6_8 u6, g6_9 u6, g6_10 u6), (((s8_q u8), 0, 1, (-1), (s8_rr u8), (s8_z u8), (s8_nb u8), (s8_wa u8)), g8_1 u8, g8_2 u8, g8_3 u8, g8_4 u8), List.Perm.refl _, List.Perm.refl _, hF, hG, hP, tw_of 1 ((if_neg (fun z => z.2 ((ti_e (n := 6) (by decide)).mpr hs0))).symm) (by decide) (by decide)⟩⟩
    · refine ⟨(wrI (W6 E x (((s6_g u6), (s6_xa u6), (s6_ra u6), (s6_caz u6), (s6_ca u6), (s6_pq u6), (s6_fl u6), (if okM p1 ((s6_cy u6) 5) ∧ ¬ (p2.toInt < 0 ∨ (6 : Int) < p2.toInt) then 0 else 1)), g6_1 u6, g6_2 u6, g6_3 u6, g6_4 u6, g6_5 u6, g6_6 u6, g6_7 u6, g6_8 u6, g6_9 u6, g6_10 u6)) (if okM p1 ((s6_cy u6) 5) then (if p2.toInt < 0 ∨ (6 : Int) < p2.toInt then (-1) else clV (s6_f0 u6) (s6_f1 u6) (s6_f2 u6) (s6_mn u6) (s6_ink u6) (s6_f4 u6) (s6_t u6) (tn p1) (tn p2)) else (-1))), (wrI (W8c E k (((s6_g u6), (s6_xa u6), (s6_ra u6), (s6_caz u6), (s6_ca u6), (s6_pq u6), (s6_fl u6), (if okM p1 ((s6_cy u6) 5) ∧ ¬ (p2.toInt < 0 ∨ (6 : Int) < p2.toInt) then 0 else 1)), g6_1 u6, g6_2 u6, g6_3 u6, g6_4 u6, g6_5 u6, g6_6 u6, g6_7 u6, g6_8 u6, g6_9 u6, g6_10 u6) (((s8_q u8), 0, 1, (-1), (s8_rr u8), (s8_z u8), (s8_nb u8), (s8_wa u8)), g8_1 u8, g8_2 u8, g8_3 u8, g8_4 u8)) ((-1))), Ct.perm hp6.symm (Ct.frI (c_X6_clause l E x (s6_xa u6) (s6_g u6) (s6_tr u6) (s6_fl u6) (s6_pl u6) (s6_cy u6) (s6_ca u6) (s6_f0 u6) (s6_f1 u6) (s6_f2 u6) (s6_f4 u6) (s6_hi u6) (s6_hm u6) (s6_t u6) (s6_dd u6) (s6_ink u6) (s6_mn u6) p1 p2 (by first | assumption | omega) (by first | assumption | omega)) [0, 20, 21, 22, 23, 25, 36, 37, 38] rfl rfl rfl rfl), Ct.perm hp8.symm (Ct.frI (c_X8_clause_no l E k (s8_th u8) (s8_tr8 u8) (s8_wh u8) (s8_g8 u8) (s8_rr u8) (s8_q u8) (upN (upN (upN (upN (s8_z u8) 6 (s6_fd u6)) 12 (s6_fl u6)) 19 (s6_ac u6)) 20 (s6_im u6)) (s8_nb u8) (s8_wa u8) (s8_wd u8) (s8_ev u8) (s8_al u8) (s8_wl u8) (s6_cy u6) (s8_kp u8) (s8_nc u8) (s8_cb u8) p1 p2 (fun z => hok z.1)) [0, 10] rfl rfl rfl rfl), fun r w h => ⟨_, h.2⟩, ?_⟩
      rintro r w r' w' ⟨rfl, rfl⟩ ⟨rfl, rfl⟩
      exact ⟨congrArg (fun z => some (Value.int z)) (if_neg hok), Or.inr ⟨(((s6_g u6), (s6_xa u6), (s6_ra u6), (s6_caz u6), (s6_ca u6), (s6_pq u6), (s6_fl u6), (if okM p1 ((s6_cy u6) 5) ∧ ¬ (p2.toInt < 0 ∨ (6 : Int) < p2.toInt) then 0 else 1)), g6_1 u6, g6_2 u6, g6_3 u6, g6_4 u6, g6_5 u6, g6_6 u6, g6_7 u6, g6_8 u6, g6_9 u6, g6_10 u6), (((s8_q u8), 0, 1, (-1), (s8_rr u8), (s8_z u8), (s8_nb u8), (s8_wa u8)), g8_1 u8, g8_2 u8, g8_3 u8, g8_4 u8), List.Perm.refl _, List.Perm.refl _, hF, hG, hP, tw_of 1 ((if_neg (fun z => hok z.1)).symm) (by decide) (by decide)⟩⟩
set_option maxRecDepth 100000 in
set_option maxHeartbeats 4000000 in
theorem op_man (l : Launch) (E : Et) (x k : Nat) (p1 : Int32) (p2 : Int32) : OpI E x k (fun w P => Ct l E yX6_man cX6_man 3 (some .int) 6 0 0 [.ref x, .int p1, .int p2] w P) (fun w P => Ct l E yX8_man cX8_man 5 (some .int) 5 0 0 [.ref k, .int p1, .int p2] w P) := by
  intro w6 w8 hv
  rcases hv with hv | hv
  · obtain ⟨u6, u8, hp6, hp8, hF, hN, hW⟩ := hv
    have hfd := hF.1
    have hby := hF.2.1
    have hkw := hF.2.2.1
    have h40z := hF.2.2.2.1
    have h40 := hF.2.2.2.2.1
    have hink2 := hF.2.2.2.2.2.1
    have hwt := hF.2.2.2.2.2.2.1
    have hdy := hF.2.2.2.2.2.2.2.1
    have hds := hF.2.2.2.2.2.2.2.2.1
    have hink := hF.2.2.2.2.2.2.2.2.2.1
    have ht := hF.2.2.2.2.2.2.2.2.2.2.1
    have ho := hF.2.2.2.2.2.2.2.2.2.2.2.1
    have hac := hF.2.2.2.2.2.2.2.2.2.2.2.2.1
    have him := hF.2.2.2.2.2.2.2.2.2.2.2.2.2.1
    have hc0 := hF.2.2.2.2.2.2.2.2.2.2.2.2.2.2.1
    have hc1 := hF.2.2.2.2.2.2.2.2.2.2.2.2.2.2.2.1
    have hc2 := hF.2.2.2.2.2.2.2.2.2.2.2.2.2.2.2.2.1
    have hc3 := hF.2.2.2.2.2.2.2.2.2.2.2.2.2.2.2.2.2.1
    have hc4 := hF.2.2.2.2.2.2.2.2.2.2.2.2.2.2.2.2.2.2.1
    have hc5 := hF.2.2.2.2.2.2.2.2.2.2.2.2.2.2.2.2.2.2.2.1
    have hc6 := hF.2.2.2.2.2.2.2.2.2.2.2.2.2.2.2.2.2.2.2.2.1
    have hc7 := hF.2.2.2.2.2.2.2.2.2.2.2.2.2.2.2.2.2.2.2.2.2
    have htr := hW.1
    have htl := hW.2.1
    have hy0 := hN.1
    have hy3 : (s6_cy u6) 3 = 0 := hy0 3 (by decide)
    have hy4 : (s6_cy u6) 4 = 0 := hy0 4 (by decide)
    have hy5 : (s6_cy u6) 5 = 0 := hy0 5 (by decide)
    have hy6 : (s6_cy u6) 6 = 0 := hy0 6 (by decide)
    refine ⟨(wrI (W6 E x (((s6_g u6), (s6_xa u6), (s6_ra u6), (s6_caz u6), (s6_ca u6), (s6_pq u6), (s6_fl u6), (if okM p1 ((s6_cy u6) 3) ∧ ¬ (p2.toInt < 0 ∨ (2 : Int) < p2.toInt) then 0 else 1)), g6_1 u6, g6_2 u6, g6_3 u6, g6_4 u6, g6_5 u6, g6_6 u6, g6_7 u6, g6_8 u6, g6_9 u6, g6_10 u6)) (if okM p1 ((s6_cy u6) 3) then (if p2.toInt < 0 ∨ (2 : Int) < p2.toInt then (-1) else maV (s6_ink u6) (s6_mn u6) p1 (tn p2)) else (-1))), (wrI (W8n E k (((s6_g u6), (s6_xa u6), (s6_ra u6), (s6_caz u6), (s6_ca u6), (s6_pq u6), (s6_fl u6), (if okM p1 ((s6_cy u6) 3) ∧ ¬ (p2.toInt < 0 ∨ (2 : Int) < p2.toInt) then 0 else 1)), g6_1 u6, g6_2 u6, g6_3 u6, g6_4 u6, g6_5 u6, g6_6 u6, g6_7 u6, g6_8 u6, g6_9 u6, g6_10 u6) (((s8_q u8), 0, 1, (-1), (s8_rr u8), (s8_z u8), (s8_nb u8), (s8_wa u8)), g8_1 u8, g8_2 u8, g8_3 u8, g8_4 u8)) ((-1))), Ct.perm hp6.symm (Ct.frI (c_X6_man l E x (s6_xa u6) (s6_g u6) (s6_tr u6) (s6_fl u6) (s6_pl u6) (s6_cy u6) (s6_ca u6) (s6_hi u6) (s6_hm u6) (s6_t u6) (s6_dd u6) (s6_ink u6) (s6_mn u6) p1 p2 (by first | assumption | omega) (by first | assumption | omega)) [0, 20, 36, 37, 38] rfl rfl rfl rfl), Ct.perm hp8.symm (Ct.frI (c_X8_man_n l E k (s8_th u8) (s8_tr8 u8) (s8_wh u8) (s8_rr u8) (s8_q u8) (upN (upN (upN (upN (s8_z u8) 6 (s6_fd u6)) 12 (s6_fl u6)) 19 (s6_ac u6)) 20 (s6_im u6)) (s8_nb u8) (s8_wa u8) (s8_wd u8) (s8_ev u8) (s8_al u8) (s8_wl u8) p1 p2 ) [0] rfl rfl rfl rfl), fun r w h => ⟨_, h.2⟩, ?_⟩
    rintro r w r' w' ⟨rfl, rfl⟩ ⟨rfl, rfl⟩
    exact ⟨congrArg (fun z => some (Value.int z)) (if_neg (okM_0 hy3)), Or.inl ⟨(((s6_g u6), (s6_xa u6), (s6_ra u6), (s6_caz u6), (s6_ca u6), (s6_pq u6), (s6_fl u6), (if okM p1 ((s6_cy u6) 3) ∧ ¬ (p2.toInt < 0 ∨ (2 : Int) < p2.toInt) then 0 else 1)), g6_1 u6, g6_2 u6, g6_3 u6, g6_4 u6, g6_5 u6, g6_6 u6, g6_7 u6, g6_8 u6, g6_9 u6, g6_10 u6), (((s8_q u8), 0, 1, (-1), (s8_rr u8), (s8_z u8), (s8_nb u8), (s8_wa u8)), g8_1 u8, g8_2 u8, g8_3 u8, g8_4 u8), List.Perm.refl _, List.Perm.refl _, hF, hN, tw_of 1 ((if_neg (fun z => okM_0 hy3 z.1)).symm) (by decide) (by decide)⟩⟩
  · obtain ⟨u6, u8, hp6, hp8, hF, hG, hP, hW⟩ := hv
    have hfd := hF.1
    have hby := hF.2.1
    have hkw := hF.2.2.1
    have h40z := hF.2.2.2.1
    have h40 := hF.2.2.2.2.1
    have hink2 := hF.2.2.2.2.2.1
    have hwt := hF.2.2.2.2.2.2.1
    have hdy := hF.2.2.2.2.2.2.2.1
    have hds := hF.2.2.2.2.2.2.2.2.1
    have hink := hF.2.2.2.2.2.2.2.2.2.1
    have ht := hF.2.2.2.2.2.2.2.2.2.2.1
    have ho := hF.2.2.2.2.2.2.2.2.2.2.2.1
    have hac := hF.2.2.2.2.2.2.2.2.2.2.2.2.1
    have him := hF.2.2.2.2.2.2.2.2.2.2.2.2.2.1
    have hc0 := hF.2.2.2.2.2.2.2.2.2.2.2.2.2.2.1
    have hc1 := hF.2.2.2.2.2.2.2.2.2.2.2.2.2.2.2.1
    have hc2 := hF.2.2.2.2.2.2.2.2.2.2.2.2.2.2.2.2.1
    have hc3 := hF.2.2.2.2.2.2.2.2.2.2.2.2.2.2.2.2.2.1
    have hc4 := hF.2.2.2.2.2.2.2.2.2.2.2.2.2.2.2.2.2.2.1
    have hc5 := hF.2.2.2.2.2.2.2.2.2.2.2.2.2.2.2.2.2.2.2.1
    have hc6 := hF.2.2.2.2.2.2.2.2.2.2.2.2.2.2.2.2.2.2.2.2.1
    have hc7 := hF.2.2.2.2.2.2.2.2.2.2.2.2.2.2.2.2.2.2.2.2.2
    have htr := hW.1
    have htl := hW.2.1
    have hgb := g8_b hc4 hc5 hc7 hG
    have hfo := hgb.1
    have hon := hgb.2.1
    have htw := hgb.2.2.1
    have hFs := hgb.2.2.2.1
    have hFt := hgb.2.2.2.2.1
    have hik := hgb.2.2.2.2.2.1
    have hun := hgb.2.2.2.2.2.2.1
    have hdi := hgb.2.2.2.2.2.2.2.1
    have hd2 := hgb.2.2.2.2.2.2.2.2.1
    have hd3 := hgb.2.2.2.2.2.2.2.2.2.1
    have hkp := hgb.2.2.2.2.2.2.2.2.2.2.1
    have hm1 := hgb.2.2.2.2.2.2.2.2.2.2.2.1
    have hal_ := hgb.2.2.2.2.2.2.2.2.2.2.2.2
    have hal := hal_ (s6_t u6)
    have hz : ∀ c, (s6_cy u6) 5 ≤ c → (s6_ink u6) c = 0 := hP.1.2.1
    have hmz : ∀ c, (s6_cy u6) 5 ≤ c → (s6_mn u6) c = -1 := hP.1.2.2.1
    have hdd9 : (s6_dd u6) ≤ 999 := hP.1.2.2.2.2
    have hw8 := w8_e hG
    have h30 : ¬ (s6_cy u6) 3 = 0 := by omega
    by_cases hok : okM p1 ((s6_cy u6) 3)
    · by_cases hs0 : 0 ≤ p2 ∧ p2 ≤ nI 2
      · obtain ⟨c0, hc0c, rfl⟩ := okM_nat hok (by omega)
        have hc31 : c0 < 2 ^ 31 := by omega
        have hs1 := hs0
        obtain ⟨d0, hd0, rfl⟩ := rg_nat (by decide) hs0
        have hd31 : d0 < 2 ^ 31 := by omega
        refine ⟨(wrI (W6 E x (((s6_g u6), (s6_xa u6), (s6_ra u6), (s6_caz u6), (s6_ca u6), (s6_pq u6), (s6_fl u6), (if okM (nI c0) ((s6_cy u6) 3) ∧ ¬ ((nI d0).toInt < 0 ∨ (2 : Int) < (nI d0).toInt) then 0 else 1)), g6_1 u6, g6_2 u6, g6_3 u6, g6_4 u6, g6_5 u6, g6_6 u6, g6_7 u6, g6_8 u6, g6_9 u6, g6_10 u6)) (if okM (nI c0) ((s6_cy u6) 3) then (if (nI d0).toInt < 0 ∨ (2 : Int) < (nI d0).toInt then (-1) else maV (s6_ink u6) (s6_mn u6) (nI c0) (tn (nI d0))) else (-1))), (wrI (W8c E k (((s6_g u6), (s6_xa u6), (s6_ra u6), (s6_caz u6), (s6_ca u6), (s6_pq u6), (s6_fl u6), (if okM (nI c0) ((s6_cy u6) 3) ∧ ¬ ((nI d0).toInt < 0 ∨ (2 : Int) < (nI d0).toInt) then 0 else 1)), g6_1 u6, g6_2 u6, g6_3 u6, g6_4 u6, g6_5 u6, g6_6 u6, g6_7 u6, g6_8 u6, g6_9 u6, g6_10 u6) (((s8_q u8), 0, 0, (-1), (s8_rr u8), (s8_z u8), (s8_nb u8), (s8_wa u8)), ((s8_wd u8), (s8_ev u8), (s8_al u8), (s8_wl u8), (xF (s6_mn u6) (s6_ink u6) (s6_t u6) (s6_dd u6)), (s8_pp u8), (s8_pj8 u8), (s8_ke u8)), g8_2 u8, g8_3 u8, g8_4 u8)) (maV (s6_ink u6) (s6_mn u6) (nI c0) d0)), Ct.perm hp6.symm (Ct.frI (c_X6_man l E x (s6_xa u6) (s6_g u6) (s6_tr u6) (s6_fl u6) (s6_pl u6) (s6_cy u6) (s6_ca u6) (s6_hi u6) (s6_hm u6) (s6_t u6) (s6_dd u6) (s6_ink u6) (s6_mn u6) (nI c0) (nI d0) (by first | assumption | omega) (by first | assumption | omega)) [0, 20, 36, 37, 38] rfl rfl rfl rfl), Ct.perm hp8.symm (Ct.frI (c_X8_man l E k (s8_th u8) (s8_tr8 u8) (s8_wh u8) (s8_g8 u8) (s8_rr u8) (s8_q u8) (upN (upN (upN (upN (s8_z u8) 6 (s6_fd u6)) 12 (s6_fl u6)) 19 (s6_ac u6)) 20 (s6_im u6)) (s8_nb u8) (s8_wa u8) (s8_wd u8) (s8_ev u8) (s8_al u8) (s8_wl u8) (s6_cy u6) (s8_kp u8) (s8_nc u8) (s8_cb u8) (s6_mn u6) (s6_ink u6) (s6_t u6) (s6_dd u6) (s8_xf u8) c0 d0 (by first | assumption | omega) (by first | assumption | omega) (by first | assumption | omega) (by first | assumption | omega) (by first | assumption | omega) (by first | assumption | omega) (by first | assumption | omega)) [0, 10, 2, 3] rfl rfl rfl rfl), fun r w h => ⟨_, h.2⟩, ?_⟩
        rintro r w r' w' ⟨rfl, rfl⟩ ⟨rfl, rfl⟩
        exact ⟨congrArg (fun z => some (Value.int z)) ((if_pos hok).trans ((if_neg (fun z => (ti_e (n := 2) (by decide)).mp z hs1)).trans (by rw [tn_n hd31]))), Or.inr ⟨(((s6_g u6), (s6_xa u6), (s6_ra u6), (s6_caz u6), (s6_ca u6), (s6_pq u6), (s6_fl u6), (if okM (nI c0) ((s6_cy u6) 3) ∧ ¬ ((nI d0).toInt < 0 ∨ (2 : Int) < (nI d0).toInt) then 0 else 1)), g6_1 u6, g6_2 u6, g6_3 u6, g6_4 u6, g6_5 u6, g6_6 u6, g6_7 u6, g6_8 u6, g6_9 u6, g6_10 u6), (((s8_q u8), 0, 0, (-1), (s8_rr u8), (s8_z u8), (s8_nb u8), (s8_wa u8)), ((s8_wd u8), (s8_ev u8), (s8_al u8), (s8_wl u8), (xF (s6_mn u6) (s6_ink u6) (s6_t u6) (s6_dd u6)), (s8_pp u8), (s8_pj8 u8), (s8_ke u8)), g8_2 u8, g8_3 u8, g8_4 u8), List.Perm.refl _, List.Perm.refl _, hF, hG, hP, tw_of 0 ((if_pos ⟨hok, fun z => (ti_e (n := 2) (by decide)).mp z hs1⟩).symm) (by decide) (by decide)⟩⟩
      · refine ⟨(wrI (W6 E x (((s6_g u6), (s6_xa u6), (s6_ra u6), (s6_caz u6), (s6_ca u6), (s6_pq u6), (s6_fl u6), (if okM p1 ((s6_cy u6) 3) ∧ ¬ (p2.toInt < 0 ∨ (2 : Int) < p2.toInt) then 0 else 1)), g6_1 u6, g6_2 u6, g6_3 u6, g6_4 u6, g6_5 u6, g6_6 u6, g6_7 u6, g6_8 u6, g6_9 u6, g6_10 u6)) (if okM p1 ((s6_cy u6) 3) then (if p2.toInt < 0 ∨ (2 : Int) < p2.toInt then (-1) else maV (s6_ink u6) (s6_mn u6) p1 (tn p2)) else (-1))), (wrI (W8c E k (((s6_g u6), (s6_xa u6), (s6_ra u6), (s6_caz u6), (s6_ca u6), (s6_pq u6), (s6_fl u6), (if okM p1 ((s6_cy u6) 3) ∧ ¬ (p2.toInt < 0 ∨ (2 : Int) < p2.toInt) then 0 else 1)), g6_1 u6, g6_2 u6, g6_3 u6, g6_4 u6, g6_5 u6, g6_6 u6, g6_7 u6, g6_8 u6, g6_9 u6, g6_10 u6) (((s8_q u8), 0, 1, (-1), (s8_rr u8), (s8_z u8), (s8_nb u8), (s8_wa u8)), g8_1 u8, g8_2 u8, g8_3 u8, g8_4 u8)) ((-1))), Ct.perm hp6.symm (Ct.frI (c_X6_man l E x (s6_xa u6) (s6_g u6) (s6_tr u6) (s6_fl u6) (s6_pl u6) (s6_cy u6) (s6_ca u6) (s6_hi u6) (s6_hm u6) (s6_t u6) (s6_dd u6) (s6_ink u6) (s6_mn u6) p1 p2 (by first | assumption | omega) (by first | assumption | omega)) [0, 20, 36, 37, 38] rfl rfl rfl rfl), Ct.perm hp8.symm (Ct.frI (c_X8_man_no l E k (s8_th u8) (s8_tr8 u8) (s8_wh u8) (s8_g8 u8) (s8_rr u8) (s8_q u8) (upN (upN (upN (upN (s8_z u8) 6 (s6_fd u6)) 12 (s6_fl u6)) 19 (s6_ac u6)) 20 (s6_im u6)) (s8_nb u8) (s8_wa u8) (s8_wd u8) (s8_ev u8) (s8_al u8) (s8_wl u8) (s6_cy u6) (s8_kp u8) (s8_nc u8) (s8_cb u8) p1 p2 (fun z => hs0 z.2)) [0, 10] rfl rfl rfl rfl), fun r w h => ⟨_, h.2⟩, ?_⟩
        rintro r w r' w' ⟨rfl, rfl⟩ ⟨rfl, rfl⟩
        exact ⟨congrArg (fun z => some (Value.int z)) ((if_pos hok).trans (if_pos ((ti_e (n := 2) (by decide)).mpr hs0))), Or.inr ⟨(((s6_g u6), (s6_xa u6), (s6_ra u6), (s6_caz u6), (s6_ca u6), (s6_pq u6), (s6_fl u6), (if okM p1 ((s6_cy u6) 3) ∧ ¬ (p2.toInt < 0 ∨ (2 : Int) < p2.toInt) then 0 else 1)), g6_1 u6, g6_2 u6, g6_3 u6, g6_4 u6, g6_5 u6, g6_6 u6, g6_7 u6, g6_8 u6, g6_9 u6, g6_10 u6), (((s8_q u8), 0, 1, (-1), (s8_rr u8), (s8_z u8), (s8_nb u8), (s8_wa u8)), g8_1 u8, g8_2 u8, g8_3 u8, g8_4 u8), List.Perm.refl _, List.Perm.refl _, hF, hG, hP, tw_of 1 ((if_neg (fun z => z.2 ((ti_e (n := 2) (by decide)).mpr hs0))).symm) (by decide) (by decide)⟩⟩
    · refine ⟨(wrI (W6 E x (((s6_g u6), (s6_xa u6), (s6_ra u6), (s6_caz u6), (s6_ca u6), (s6_pq u6), (s6_fl u6), (if okM p1 ((s6_cy u6) 3) ∧ ¬ (p2.toInt < 0 ∨ (2 : Int) < p2.toInt) then 0 else 1)), g6_1 u6, g6_2 u6, g6_3 u6, g6_4 u6, g6_5 u6, g6_6 u6, g6_7 u6, g6_8 u6, g6_9 u6, g6_10 u6)) (if okM p1 ((s6_cy u6) 3) then (if p2.toInt < 0 ∨ (2 : Int) < p2.toInt then (-1) else maV (s6_ink u6) (s6_mn u6) p1 (tn p2)) else (-1))), (wrI (W8c E k (((s6_g u6), (s6_xa u6), (s6_ra u6), (s6_caz u6), (s6_ca u6), (s6_pq u6), (s6_fl u6), (if okM p1 ((s6_cy u6) 3) ∧ ¬ (p2.toInt < 0 ∨ (2 : Int) < p2.toInt) then 0 else 1)), g6_1 u6, g6_2 u6, g6_3 u6, g6_4 u6, g6_5 u6, g6_6 u6, g6_7 u6, g6_8 u6, g6_9 u6, g6_10 u6) (((s8_q u8), 0, 1, (-1), (s8_rr u8), (s8_z u8), (s8_nb u8), (s8_wa u8)), g8_1 u8, g8_2 u8, g8_3 u8, g8_4 u8)) ((-1))), Ct.perm hp6.symm (Ct.frI (c_X6_man l E x (s6_xa u6) (s6_g u6) (s6_tr u6) (s6_fl u6) (s6_pl u6) (s6_cy u6) (s6_ca u6) (s6_hi u6) (s6_hm u6) (s6_t u6) (s6_dd u6) (s6_ink u6) (s6_mn u6) p1 p2 (by first | assumption | omega) (by first | assumption | omega)) [0, 20, 36, 37, 38] rfl rfl rfl rfl), Ct.perm hp8.symm (Ct.frI (c_X8_man_no l E k (s8_th u8) (s8_tr8 u8) (s8_wh u8) (s8_g8 u8) (s8_rr u8) (s8_q u8) (upN (upN (upN (upN (s8_z u8) 6 (s6_fd u6)) 12 (s6_fl u6)) 19 (s6_ac u6)) 20 (s6_im u6)) (s8_nb u8) (s8_wa u8) (s8_wd u8) (s8_ev u8) (s8_al u8) (s8_wl u8) (s6_cy u6) (s8_kp u8) (s8_nc u8) (s8_cb u8) p1 p2 (fun z => hok z.1)) [0, 10] rfl rfl rfl rfl), fun r w h => ⟨_, h.2⟩, ?_⟩
      rintro r w r' w' ⟨rfl, rfl⟩ ⟨rfl, rfl⟩
      exact ⟨congrArg (fun z => some (Value.int z)) (if_neg hok), Or.inr ⟨(((s6_g u6), (s6_xa u6), (s6_ra u6), (s6_caz u6), (s6_ca u6), (s6_pq u6), (s6_fl u6), (if okM p1 ((s6_cy u6) 3) ∧ ¬ (p2.toInt < 0 ∨ (2 : Int) < p2.toInt) then 0 else 1)), g6_1 u6, g6_2 u6, g6_3 u6, g6_4 u6, g6_5 u6, g6_6 u6, g6_7 u6, g6_8 u6, g6_9 u6, g6_10 u6), (((s8_q u8), 0, 1, (-1), (s8_rr u8), (s8_z u8), (s8_nb u8), (s8_wa u8)), g8_1 u8, g8_2 u8, g8_3 u8, g8_4 u8), List.Perm.refl _, List.Perm.refl _, hF, hG, hP, tw_of 1 ((if_neg (fun z => hok z.1)).symm) (by decide) (by decide)⟩⟩
