set_option maxRecDepth 100000 in
set_option maxHeartbeats 4000000 in
theorem op_ways (l : Launch) (E : Et) (x k : Nat) (p1 : Int32) : OpI E x k (fun w P => Ct l E yX6_ways cX6_ways 2 (some .int) 6 0 0 [.ref x, .int p1] w P) (fun w P => Ct l E yX8_ways cX8_ways 2 (some .int) 5 0 0 [.ref k, .int p1] w P) := by
  intro w6 w8 hv
  rcases hv with hv | hv
  · obtain ⟨u6, u8, hp6, hp8, hF, hN, hW⟩ := hv
    have hfd := hF.1
    have hby := hF.2.1
    have hkw := hF.2.2.1
    have h40z := hF.2.2.2.1
    have h40 := hF.2.2.2.2.1
    have hink2 := hF.2.2.2.2.2.1
    have hwt := hF.2.2.2.2.2.2.1
    have hdy := hF.2.2.2.2.2.2.2.1
    have hds := hF.2.2.2.2.2.2.2.2.1
    have hink := hF.2.2.2.2.2.2.2.2.2.1
    have ht := hF.2.2.2.2.2.2.2.2.2.2.1
    have ho := hF.2.2.2.2.2.2.2.2.2.2.2.1
    have hac := hF.2.2.2.2.2.2.2.2.2.2.2.2.1
    have him := hF.2.2.2.2.2.2.2.2.2.2.2.2.2.1
    have hc0 := hF.2.2.2.2.2.2.2.2.2.2.2.2.2.2.1
    have hc1 := hF.2.2.2.2.2.2.2.2.2.2.2.2.2.2.2.1
    have hc2 := hF.2.2.2.2.2.2.2.2.2.2.2.2.2.2.2.2.1
    have hc3 := hF.2.2.2.2.2.2.2.2.2.2.2.2.2.2.2.2.2.1
    have hc4 := hF.2.2.2.2.2.2.2.2.2.2.2.2.2.2.2.2.2.2.1
    have hc5 := hF.2.2.2.2.2.2.2.2.2.2.2.2.2.2.2.2.2.2.2.1
    have hc6 := hF.2.2.2.2.2.2.2.2.2.2.2.2.2.2.2.2.2.2.2.2.1
    have hc7 := hF.2.2.2.2.2.2.2.2.2.2.2.2.2.2.2.2.2.2.2.2.2
    have htr := hW.1
    have htl := hW.2.1
    have hy0 := hN.1
    have hy3 : (s6_cy u6) 3 = 0 := hy0 3 (by decide)
    have hy4 : (s6_cy u6) 4 = 0 := hy0 4 (by decide)
    have hy5 : (s6_cy u6) 5 = 0 := hy0 5 (by decide)
    have hy6 : (s6_cy u6) 6 = 0 := hy0 6 (by decide)
    refine ⟨(wrI (W6 E x (((s6_g u6), (s6_xa u6), (s6_ra u6), (s6_caz u6), (s6_ca u6), (s6_pq u6), (s6_fl u6), (if okM p1 ((s6_cy u6) 3) then 0 else 1)), g6_1 u6, g6_2 u6, g6_3 u6, g6_4 u6, g6_5 u6, g6_6 u6, g6_7 u6, g6_8 u6, g6_9 u6, g6_10 u6)) (if okM p1 ((s6_cy u6) 3) then nI (pop64 (kpN (s6_cy u6) (s6_Fs u6) (s6_Ft u6) (s6_t u6) (bdN (s6_ink u6) (s6_mn u6) p1 0))) else (-1))), (wrI (W8n E k (((s6_g u6), (s6_xa u6), (s6_ra u6), (s6_caz u6), (s6_ca u6), (s6_pq u6), (s6_fl u6), (if okM p1 ((s6_cy u6) 3) then 0 else 1)), g6_1 u6, g6_2 u6, g6_3 u6, g6_4 u6, g6_5 u6, g6_6 u6, g6_7 u6, g6_8 u6, g6_9 u6, g6_10 u6) (((s8_q u8), 0, 1, (-1), (s8_rr u8), (s8_z u8), (s8_nb u8), (s8_wa u8)), g8_1 u8, g8_2 u8, g8_3 u8, g8_4 u8)) ((-1))), Ct.perm hp6.symm (Ct.frI (c_X6_ways l E x (s6_xa u6) (s6_g u6) (s6_tr u6) (s6_fl u6) (s6_pl u6) (s6_cy u6) (s6_ca u6) (s6_Fs u6) (s6_Ft u6) (s6_hi u6) (s6_hm u6) (s6_t u6) (s6_dd u6) (s6_ink u6) (s6_mn u6) p1 (by first | assumption | omega) (by first | assumption | omega) (by first | assumption | omega) (by first | assumption | omega) (by first | assumption | omega)) [0, 20, 26, 27, 36, 37, 38] rfl rfl rfl rfl), Ct.perm hp8.symm (Ct.frI (c_X8_ways_n l E k (s8_th u8) (s8_tr8 u8) (s8_wh u8) (s8_rr u8) (s8_q u8) (upN (upN (upN (upN (s8_z u8) 6 (s6_fd u6)) 12 (s6_fl u6)) 19 (s6_ac u6)) 20 (s6_im u6)) (s8_nb u8) (s8_wa u8) (s8_wd u8) (s8_ev u8) (s8_al u8) (s8_wl u8) p1 ) [0] rfl rfl rfl rfl), fun r w h => ⟨_, h.2⟩, ?_⟩
    rintro r w r' w' ⟨rfl, rfl⟩ ⟨rfl, rfl⟩
    exact ⟨congrArg (fun z => some (Value.int z)) (if_neg (okM_0 hy3)), Or.inl ⟨(((s6_g u6), (s6_xa u6), (s6_ra u6), (s6_caz u6), (s6_ca u6), (s6_pq u6), (s6_fl u6), (if okM p1 ((s6_cy u6) 3) then 0 else 1)), g6_1 u6, g6_2 u6, g6_3 u6, g6_4 u6, g6_5 u6, g6_6 u6, g6_7 u6, g6_8 u6, g6_9 u6, g6_10 u6), (((s8_q u8), 0, 1, (-1), (s8_rr u8), (s8_z u8), (s8_nb u8), (s8_wa u8)), g8_1 u8, g8_2 u8, g8_3 u8, g8_4 u8), List.Perm.refl _, List.Perm.refl _, hF, hN, tw_of 1 ((if_neg (okM_0 hy3)).symm) (by decide) (by decide)⟩⟩
  · obtain ⟨u6, u8, hp6, hp8, hF, hG, hP, hW⟩ := hv
    have hfd := hF.1
    have hby := hF.2.1
    have hkw := hF.2.2.1
    have h40z := hF.2.2.2.1
    have h40 := hF.2.2.2.2.1
    have hink2 := hF.2.2.2.2.2.1
    have hwt := hF.2.2.2.2.2.2.1
    have hdy := hF.2.2.2.2.2.2.2.1
    have hds := hF.2.2.2.2.2.2.2.2.1
    have hink := hF.2.2.2.2.2.2.2.2.2.1
    have ht := hF.2.2.2.2.2.2.2.2.2.2.1
    have ho := hF.2.2.2.2.2.2.2.2.2.2.2.1
    have hac := hF.2.2.2.2.2.2.2.2.2.2.2.2.1
    have him := hF.2.2.2.2.2.2.2.2.2.2.2.2.2.1
    have hc0 := hF.2.2.2.2.2.2.2.2.2.2.2.2.2.2.1
    have hc1 := hF.2.2.2.2.2.2.2.2.2.2.2.2.2.2.2.1
    have hc2 := hF.2.2.2.2.2.2.2.2.2.2.2.2.2.2.2.2.1
    have hc3 := hF.2.2.2.2.2.2.2.2.2.2.2.2.2.2.2.2.2.1
    have hc4 := hF.2.2.2.2.2.2.2.2.2.2.2.2.2.2.2.2.2.2.1
    have hc5 := hF.2.2.2.2.2.2.2.2.2.2.2.2.2.2.2.2.2.2.2.1
    have hc6 := hF.2.2.2.2.2.2.2.2.2.2.2.2.2.2.2.2.2.2.2.2.1
    have hc7 := hF.2.2.2.2.2.2.2.2.2.2.2.2.2.2.2.2.2.2.2.2.2
    have htr := hW.1
    have htl := hW.2.1
    have hgb := g8_b hc4 hc5 hc7 hG
    have hfo := hgb.1
    have hon := hgb.2.1
    have htw := hgb.2.2.1
    have hFs := hgb.2.2.2.1
    have hFt := hgb.2.2.2.2.1
    have hik := hgb.2.2.2.2.2.1
    have hun := hgb.2.2.2.2.2.2.1
    have hdi := hgb.2.2.2.2.2.2.2.1
    have hd2 := hgb.2.2.2.2.2.2.2.2.1
    have hd3 := hgb.2.2.2.2.2.2.2.2.2.1
    have hkp := hgb.2.2.2.2.2.2.2.2.2.2.1
    have hm1 := hgb.2.2.2.2.2.2.2.2.2.2.2.1
    have hal_ := hgb.2.2.2.2.2.2.2.2.2.2.2.2
    have hal := hal_ (s6_t u6)
    have hz : ∀ c, (s6_cy u6) 5 ≤ c → (s6_ink u6) c = 0 := hP.1.2.1
    have hmz : ∀ c, (s6_cy u6) 5 ≤ c → (s6_mn u6) c = -1 := hP.1.2.2.1
    have hdd9 : (s6_dd u6) ≤ 999 := hP.1.2.2.2.2
    have hw8 := w8_e hG
    have h30 : ¬ (s6_cy u6) 3 = 0 := by omega
    by_cases hok : okM p1 ((s6_cy u6) 3)
    · refine ⟨(wrI (W6 E x (((s6_g u6), (s6_xa u6), (s6_ra u6), (s6_caz u6), (s6_ca u6), (s6_pq u6), (s6_fl u6), (if okM p1 ((s6_cy u6) 3) then 0 else 1)), g6_1 u6, g6_2 u6, g6_3 u6, g6_4 u6, g6_5 u6, g6_6 u6, g6_7 u6, g6_8 u6, g6_9 u6, g6_10 u6)) (if okM p1 ((s6_cy u6) 3) then nI (pop64 (kpN (s6_cy u6) (s6_Fs u6) (s6_Ft u6) (s6_t u6) (bdN (s6_ink u6) (s6_mn u6) p1 0))) else (-1))), (wrI (W8c E k (((s6_g u6), (s6_xa u6), (s6_ra u6), (s6_caz u6), (s6_ca u6), (s6_pq u6), (s6_fl u6), (if okM p1 ((s6_cy u6) 3) then 0 else 1)), g6_1 u6, g6_2 u6, g6_3 u6, g6_4 u6, g6_5 u6, g6_6 u6, g6_7 u6, g6_8 u6, g6_9 u6, g6_10 u6) (((s8_q u8), 0, 0, (-1), (s8_rr u8), (s8_z u8), (s8_nb u8), (s8_wa u8)), ((s8_wd u8), (allS ((s6_cy u6) 4)), (s8_al u8), (s8_wl u8), (xF (s6_mn u6) (s6_ink u6) (s6_t u6) (s6_dd u6)), (s8_pp u8), (s8_pj8 u8), (lyF (s6_Fs u6) (s6_Ft u6) (s6_t u6) ((s6_cy u6) 4) (s8_ke u8) ((s6_cy u6) 5))), g8_2 u8, g8_3 u8, g8_4 u8)) (nI (pop64 (kpN (s6_cy u6) (s6_Fs u6) (s6_Ft u6) (s6_t u6) (bdN (s6_ink u6) (s6_mn u6) p1 0))))), Ct.perm hp6.symm (Ct.frI (c_X6_ways l E x (s6_xa u6) (s6_g u6) (s6_tr u6) (s6_fl u6) (s6_pl u6) (s6_cy u6) (s6_ca u6) (s6_Fs u6) (s6_Ft u6) (s6_hi u6) (s6_hm u6) (s6_t u6) (s6_dd u6) (s6_ink u6) (s6_mn u6) p1 (by first | assumption | omega) (by first | assumption | omega) (by first | assumption | omega) (by first | assumption | omega) (by first | assumption | omega)) [0, 20, 26, 27, 36, 37, 38] rfl rfl rfl rfl), Ct.perm hp8.symm (Ct.frI (c_X8_ways l E k (s8_th u8) (s8_tr8 u8) (s8_wh u8) (s8_g8 u8) (s8_rr u8) (s8_q u8) (upN (upN (upN (upN (s8_z u8) 6 (s6_fd u6)) 12 (s6_fl u6)) 19 (s6_ac u6)) 20 (s6_im u6)) (s8_nb u8) (s8_wa u8) (s8_wd u8) (s8_ev u8) (s8_al u8) (s8_wl u8) (s6_cy u6) (s8_kp u8) (s8_nc u8) (s8_cb u8) (s8_gf u8) (s8_go_ u8) (s8_gt_ u8) (s8_xf u8) (s6_mn u6) (s6_ink u6) (s6_t u6) (s6_dd u6) (s6_Fs u6) (s6_Ft u6) (s8_ke u8) p1 (by first | assumption | omega) (by first | assumption | omega) (by first | assumption | omega) (by first | assumption | omega) (by first | assumption | omega) (by first | assumption | omega) (by first | assumption | omega) (by first | assumption | omega) (by first | assumption | omega) (by first | assumption | omega)) [0, 10, 13, 14, 15, 2, 3, 6] rfl rfl rfl rfl), fun r w h => ⟨_, h.2⟩, ?_⟩
      rintro r w r' w' ⟨rfl, rfl⟩ ⟨rfl, rfl⟩
      exact ⟨congrArg (fun z => some (Value.int z)) (if_pos hok), Or.inr ⟨(((s6_g u6), (s6_xa u6), (s6_ra u6), (s6_caz u6), (s6_ca u6), (s6_pq u6), (s6_fl u6), (if okM p1 ((s6_cy u6) 3) then 0 else 1)), g6_1 u6, g6_2 u6, g6_3 u6, g6_4 u6, g6_5 u6, g6_6 u6, g6_7 u6, g6_8 u6, g6_9 u6, g6_10 u6), (((s8_q u8), 0, 0, (-1), (s8_rr u8), (s8_z u8), (s8_nb u8), (s8_wa u8)), ((s8_wd u8), (allS ((s6_cy u6) 4)), (s8_al u8), (s8_wl u8), (xF (s6_mn u6) (s6_ink u6) (s6_t u6) (s6_dd u6)), (s8_pp u8), (s8_pj8 u8), (lyF (s6_Fs u6) (s6_Ft u6) (s6_t u6) ((s6_cy u6) 4) (s8_ke u8) ((s6_cy u6) 5))), g8_2 u8, g8_3 u8, g8_4 u8), List.Perm.refl _, List.Perm.refl _, hF, hG, hP, tw_of 0 ((if_pos hok).symm) (by decide) (by decide)⟩⟩
    · refine ⟨(wrI (W6 E x (((s6_g u6), (s6_xa u6), (s6_ra u6), (s6_caz u6), (s6_ca u6), (s6_pq u6), (s6_fl u6), (if okM p1 ((s6_cy u6) 3) then 0 else 1)), g6_1 u6, g6_2 u6, g6_3 u6, g6_4 u6, g6_5 u6, g6_6 u6, g6_7 u6, g6_8 u6, g6_9 u6, g6_10 u6)) (if okM p1 ((s6_cy u6) 3) then nI (pop64 (kpN (s6_cy u6) (s6_Fs u6) (s6_Ft u6) (s6_t u6) (bdN (s6_ink u6) (s6_mn u6) p1 0))) else (-1))), (wrI (W8c E k (((s6_g u6), (s6_xa u6), (s6_ra u6), (s6_caz u6), (s6_ca u6), (s6_pq u6), (s6_fl u6), (if okM p1 ((s6_cy u6) 3) then 0 else 1)), g6_1 u6, g6_2 u6, g6_3 u6, g6_4 u6, g6_5 u6, g6_6 u6, g6_7 u6, g6_8 u6, g6_9 u6, g6_10 u6) (((s8_q u8), 0, 1, (-1), (s8_rr u8), (s8_z u8), (s8_nb u8), (s8_wa u8)), g8_1 u8, g8_2 u8, g8_3 u8, g8_4 u8)) ((-1))), Ct.perm hp6.symm (Ct.frI (c_X6_ways l E x (s6_xa u6) (s6_g u6) (s6_tr u6) (s6_fl u6) (s6_pl u6) (s6_cy u6) (s6_ca u6) (s6_Fs u6) (s6_Ft u6) (s6_hi u6) (s6_hm u6) (s6_t u6) (s6_dd u6) (s6_ink u6) (s6_mn u6) p1 (by first | assumption | omega) (by first | assumption | omega) (by first | assumption | omega) (by first | assumption | omega) (by first | assumption | omega)) [0, 20, 26, 27, 36, 37, 38] rfl rfl rfl rfl), Ct.perm hp8.symm (Ct.frI (c_X8_ways_no l E k (s8_th u8) (s8_tr8 u8) (s8_wh u8) (s8_g8 u8) (s8_rr u8) (s8_q u8) (upN (upN (upN (upN (s8_z u8) 6 (s6_fd u6)) 12 (s6_fl u6)) 19 (s6_ac u6)) 20 (s6_im u6)) (s8_nb u8) (s8_wa u8) (s8_wd u8) (s8_ev u8) (s8_al u8) (s8_wl u8) (s6_cy u6) (s8_kp u8) (s8_nc u8) (s8_cb u8) p1 (by first | assumption | omega)) [0, 10] rfl rfl rfl rfl), fun r w h => ⟨_, h.2⟩, ?_⟩
      rintro r w r' w' ⟨rfl, rfl⟩ ⟨rfl, rfl⟩
      exact ⟨congrArg (fun z => some (Value.int z)) (if_neg hok), Or.inr ⟨(((s6_g u6), (s6_xa u6), (s6_ra u6), (s6_caz u6), (s6_ca u6), (s6_pq u6), (s6_fl u6), (if okM p1 ((s6_cy u6) 3) then 0 else 1)), g6_1 u6, g6_2 u6, g6_3 u6, g6_4 u6, g6_5 u6, g6_6 u6, g6_7 u6, g6_8 u6, g6_9 u6, g6_10 u6), (((s8_q u8), 0, 1, (-1), (s8_rr u8), (s8_z u8), (s8_nb u8), (s8_wa u8)), g8_1 u8, g8_2 u8, g8_3 u8, g8_4 u8), List.Perm.refl _, List.Perm.refl _, hF, hG, hP, tw_of 1 ((if_neg hok).symm) (by decide) (by decide)⟩⟩
set_option maxRecDepth 100000 in
set_option maxHeartbeats 4000000 in
theorem op_can (l : Launch) (E : Et) (x k : Nat) (p1 : Int32) : OpI E x k (fun w P => Ct l E yX6_can cX6_can 2 (some .int) 6 0 0 [.ref x, .int p1] w P) (fun w P => Ct l E yX8_can cX8_can 2 (some .int) 5 0 0 [.ref k, .int p1] w P) := by
  intro w6 w8 hv
  rcases hv with hv | hv
  · obtain ⟨u6, u8, hp6, hp8, hF, hN, hW⟩ := hv
    have hfd := hF.1
    have hby := hF.2.1
    have hkw := hF.2.2.1
    have h40z := hF.2.2.2.1
    have h40 := hF.2.2.2.2.1
    have hink2 := hF.2.2.2.2.2.1
    have hwt := hF.2.2.2.2.2.2.1
    have hdy := hF.2.2.2.2.2.2.2.1
    have hds := hF.2.2.2.2.2.2.2.2.1
    have hink := hF.2.2.2.2.2.2.2.2.2.1
    have ht := hF.2.2.2.2.2.2.2.2.2.2.1
    have ho := hF.2.2.2.2.2.2.2.2.2.2.2.1
    have hac := hF.2.2.2.2.2.2.2.2.2.2.2.2.1
    have him := hF.2.2.2.2.2.2.2.2.2.2.2.2.2.1
    have hc0 := hF.2.2.2.2.2.2.2.2.2.2.2.2.2.2.1
    have hc1 := hF.2.2.2.2.2.2.2.2.2.2.2.2.2.2.2.1
    have hc2 := hF.2.2.2.2.2.2.2.2.2.2.2.2.2.2.2.2.1
    have hc3 := hF.2.2.2.2.2.2.2.2.2.2.2.2.2.2.2.2.2.1
    have hc4 := hF.2.2.2.2.2.2.2.2.2.2.2.2.2.2.2.2.2.2.1
    have hc5 := hF.2.2.2.2.2.2.2.2.2.2.2.2.2.2.2.2.2.2.2.1
    have hc6 := hF.2.2.2.2.2.2.2.2.2.2.2.2.2.2.2.2.2.2.2.2.1
    have hc7 := hF.2.2.2.2.2.2.2.2.2.2.2.2.2.2.2.2.2.2.2.2.2
    have htr := hW.1
    have htl := hW.2.1
    have hy0 := hN.1
    have hy3 : (s6_cy u6) 3 = 0 := hy0 3 (by decide)
    have hy4 : (s6_cy u6) 4 = 0 := hy0 4 (by decide)
    have hy5 : (s6_cy u6) 5 = 0 := hy0 5 (by decide)
    have hy6 : (s6_cy u6) 6 = 0 := hy0 6 (by decide)
    refine ⟨(wrI (W6 E x (((s6_g u6), (s6_xa u6), (s6_ra u6), (s6_caz u6), (s6_ca u6), (s6_pq u6), (s6_fl u6), (if okM p1 ((s6_cy u6) 3) then 0 else 1)), g6_1 u6, g6_2 u6, g6_3 u6, g6_4 u6, g6_5 u6, g6_6 u6, g6_7 u6, g6_8 u6, g6_9 u6, g6_10 u6)) (if okM p1 ((s6_cy u6) 3) then nI (bbits (fun d => decide (¬ kpN (s6_cy u6) (s6_Fs u6) (s6_Ft u6) (s6_t u6) (bdN (s6_ink u6) (s6_mn u6) p1 0) &&& swI (nI d) = 0)) ((s6_cy u6) 4)) else (-1))), (wrI (W8n E k (((s6_g u6), (s6_xa u6), (s6_ra u6), (s6_caz u6), (s6_ca u6), (s6_pq u6), (s6_fl u6), (if okM p1 ((s6_cy u6) 3) then 0 else 1)), g6_1 u6, g6_2 u6, g6_3 u6, g6_4 u6, g6_5 u6, g6_6 u6, g6_7 u6, g6_8 u6, g6_9 u6, g6_10 u6) (((s8_q u8), 0, 1, (-1), (s8_rr u8), (s8_z u8), (s8_nb u8), (s8_wa u8)), g8_1 u8, g8_2 u8, g8_3 u8, g8_4 u8)) ((-1))), Ct.perm hp6.symm (Ct.frI (c_X6_can l E x (s6_xa u6) (s6_g u6) (s6_tr u6) (s6_fl u6) (s6_pl u6) (s6_cy u6) (s6_ca u6) (s6_Fs u6) (s6_Ft u6) (s6_hi u6) (s6_hm u6) (s6_t u6) (s6_dd u6) (s6_ink u6) (s6_mn u6) p1 (by first | assumption | omega) (by first | assumption | omega) (by first | assumption | omega) (by first | assumption | omega) (by first | assumption | omega)) [0, 20, 26, 27, 36, 37, 38] rfl rfl rfl rfl), Ct.perm hp8.symm (Ct.frI (c_X8_can_n l E k (s8_th u8) (s8_tr8 u8) (s8_wh u8) (s8_rr u8) (s8_q u8) (upN (upN (upN (upN (s8_z u8) 6 (s6_fd u6)) 12 (s6_fl u6)) 19 (s6_ac u6)) 20 (s6_im u6)) (s8_nb u8) (s8_wa u8) (s8_wd u8) (s8_ev u8) (s8_al u8) (s8_wl u8) p1 ) [0] rfl rfl rfl rfl), fun r w h => ⟨_, h.2⟩, ?_⟩
    rintro r w r' w' ⟨rfl, rfl⟩ ⟨rfl, rfl⟩
    exact ⟨congrArg (fun z => some (Value.int z)) (if_neg (okM_0 hy3)), Or.inl ⟨(((s6_g u6), (s6_xa u6), (s6_ra u6), (s6_caz u6), (s6_ca u6), (s6_pq u6), (s6_fl u6), (if okM p1 ((s6_cy u6) 3) then 0 else 1)), g6_1 u6, g6_2 u6, g6_3 u6, g6_4 u6, g6_5 u6, g6_6 u6, g6_7 u6, g6_8 u6, g6_9 u6, g6_10 u6), (((s8_q u8), 0, 1, (-1), (s8_rr u8), (s8_z u8), (s8_nb u8), (s8_wa u8)), g8_1 u8, g8_2 u8, g8_3 u8, g8_4 u8), List.Perm.refl _, List.Perm.refl _, hF, hN, tw_of 1 ((if_neg (okM_0 hy3)).symm) (by decide) (by decide)⟩⟩
  · obtain ⟨u6, u8, hp6, hp8, hF, hG, hP, hW⟩ := hv
    have hfd := hF.1
    have hby := hF.2.1
    have hkw := hF.2.2.1
    have h40z := hF.2.2.2.1
    have h40 := hF.2.2.2.2.1
    have hink2 := hF.2.2.2.2.2.1
    have hwt := hF.2.2.2.2.2.2.1
    have hdy := hF.2.2.2.2.2.2.2.1
    have hds := hF.2.2.2.2.2.2.2.2.1
    have hink := hF.2.2.2.2.2.2.2.2.2.1
    have ht := hF.2.2.2.2.2.2.2.2.2.2.1
    have ho := hF.2.2.2.2.2.2.2.2.2.2.2.1
    have hac := hF.2.2.2.2.2.2.2.2.2.2.2.2.1
    have him := hF.2.2.2.2.2.2.2.2.2.2.2.2.2.1
    have hc0 := hF.2.2.2.2.2.2.2.2.2.2.2.2.2.2.1
    have hc1 := hF.2.2.2.2.2.2.2.2.2.2.2.2.2.2.2.1
    have hc2 := hF.2.2.2.2.2.2.2.2.2.2.2.2.2.2.2.2.1
    have hc3 := hF.2.2.2.2.2.2.2.2.2.2.2.2.2.2.2.2.2.1
    have hc4 := hF.2.2.2.2.2.2.2.2.2.2.2.2.2.2.2.2.2.2.1
    have hc5 := hF.2.2.2.2.2.2.2.2.2.2.2.2.2.2.2.2.2.2.2.1
    have hc6 := hF.2.2.2.2.2.2.2.2.2.2.2.2.2.2.2.2.2.2.2.2.1
    have hc7 := hF.2.2.2.2.2.2.2.2.2.2.2.2.2.2.2.2.2.2.2.2.2
    have htr := hW.1
    have htl := hW.2.1
    have hgb := g8_b hc4 hc5 hc7 hG
    have hfo := hgb.1
    have hon := hgb.2.1
    have htw := hgb.2.2.1
    have hFs := hgb.2.2.2.1
    have hFt := hgb.2.2.2.2.1
    have hik := hgb.2.2.2.2.2.1
    have hun := hgb.2.2.2.2.2.2.1
    have hdi := hgb.2.2.2.2.2.2.2.1
    have hd2 := hgb.2.2.2.2.2.2.2.2.1
    have hd3 := hgb.2.2.2.2.2.2.2.2.2.1
    have hkp := hgb.2.2.2.2.2.2.2.2.2.2.1
    have hm1 := hgb.2.2.2.2.2.2.2.2.2.2.2.1
    have hal_ := hgb.2.2.2.2.2.2.2.2.2.2.2.2
    have hal := hal_ (s6_t u6)
    have hz : ∀ c, (s6_cy u6) 5 ≤ c → (s6_ink u6) c = 0 := hP.1.2.1
    have hmz : ∀ c, (s6_cy u6) 5 ≤ c → (s6_mn u6) c = -1 := hP.1.2.2.1
    have hdd9 : (s6_dd u6) ≤ 999 := hP.1.2.2.2.2
    have hw8 := w8_e hG
    have h30 : ¬ (s6_cy u6) 3 = 0 := by omega
    by_cases hok : okM p1 ((s6_cy u6) 3)
    · refine ⟨(wrI (W6 E x (((s6_g u6), (s6_xa u6), (s6_ra u6), (s6_caz u6), (s6_ca u6), (s6_pq u6), (s6_fl u6), (if okM p1 ((s6_cy u6) 3) then 0 else 1)), g6_1 u6, g6_2 u6, g6_3 u6, g6_4 u6, g6_5 u6, g6_6 u6, g6_7 u6, g6_8 u6, g6_9 u6, g6_10 u6)) (if okM p1 ((s6_cy u6) 3) then nI (bbits (fun d => decide (¬ kpN (s6_cy u6) (s6_Fs u6) (s6_Ft u6) (s6_t u6) (bdN (s6_ink u6) (s6_mn u6) p1 0) &&& swI (nI d) = 0)) ((s6_cy u6) 4)) else (-1))), (wrI (W8c E k (((s6_g u6), (s6_xa u6), (s6_ra u6), (s6_caz u6), (s6_ca u6), (s6_pq u6), (s6_fl u6), (if okM p1 ((s6_cy u6) 3) then 0 else 1)), g6_1 u6, g6_2 u6, g6_3 u6, g6_4 u6, g6_5 u6, g6_6 u6, g6_7 u6, g6_8 u6, g6_9 u6, g6_10 u6) (((s8_q u8), 0, 0, (-1), (s8_rr u8), (s8_z u8), (s8_nb u8), (s8_wa u8)), ((s8_wd u8), (allS ((s6_cy u6) 4)), (s8_al u8), (s8_wl u8), (xF (s6_mn u6) (s6_ink u6) (s6_t u6) (s6_dd u6)), (s8_pp u8), (s8_pj8 u8), (lyF (s6_Fs u6) (s6_Ft u6) (s6_t u6) ((s6_cy u6) 4) (s8_ke u8) ((s6_cy u6) 5))), g8_2 u8, g8_3 u8, g8_4 u8)) (nI (bbits (fun d => decide (¬ kpN (s6_cy u6) (s6_Fs u6) (s6_Ft u6) (s6_t u6) (bdN (s6_ink u6) (s6_mn u6) p1 0) &&& swI (nI d) = 0)) ((s6_cy u6) 4)))), Ct.perm hp6.symm (Ct.frI (c_X6_can l E x (s6_xa u6) (s6_g u6) (s6_tr u6) (s6_fl u6) (s6_pl u6) (s6_cy u6) (s6_ca u6) (s6_Fs u6) (s6_Ft u6) (s6_hi u6) (s6_hm u6) (s6_t u6) (s6_dd u6) (s6_ink u6) (s6_mn u6) p1 (by first | assumption | omega) (by first | assumption | omega) (by first | assumption | omega) (by first | assumption | omega) (by first | assumption | omega)) [0, 20, 26, 27, 36, 37, 38] rfl rfl rfl rfl), Ct.perm hp8.symm (Ct.frI (c_X8_can l E k (s8_th u8) (s8_tr8 u8) (s8_wh u8) (s8_g8 u8) (s8_rr u8) (s8_q u8) (upN (upN (upN (upN (s8_z u8) 6 (s6_fd u6)) 12 (s6_fl u6)) 19 (s6_ac u6)) 20 (s6_im u6)) (s8_nb u8) (s8_wa u8) (s8_wd u8) (s8_ev u8) (s8_al u8) (s8_wl u8) (s6_cy u6) (s8_kp u8) (s8_nc u8) (s8_cb u8) (s8_gf u8) (s8_go_ u8) (s8_gt_ u8) (s8_xf u8) (s6_mn u6) (s6_ink u6) (s6_t u6) (s6_dd u6) (s6_Fs u6) (s6_Ft u6) (s8_ke u8) p1 (by first | assumption | omega) (by first | assumption | omega) (by first | assumption | omega) (by first | assumption | omega) (by first | assumption | omega) (by first | assumption | omega) (by first | assumption | omega) (by first | assumption | omega) (by first | assumption | omega) (by first | assumption | omega)) [0, 10, 13, 14, 15, 2, 3, 6] rfl rfl rfl rfl), fun r w h => ⟨_, h.2⟩, ?_⟩
      rintro r w r' w' ⟨rfl, rfl⟩ ⟨rfl, rfl⟩
      exact ⟨congrArg (fun z => some (Value.int z)) (if_pos hok), Or.inr ⟨(((s6_g u6), (s6_xa u6), (s6_ra u6), (s6_caz u6), (s6_ca u6), (s6_pq u6), (s6_fl u6), (if okM p1 ((s6_cy u6) 3) then 0 else 1)), g6_1 u6, g6_2 u6, g6_3 u6, g6_4 u6, g6_5 u6, g6_6 u6, g6_7 u6, g6_8 u6, g6_9 u6, g6_10 u6), (((s8_q u8), 0, 0, (-1), (s8_rr u8), (s8_z u8), (s8_nb u8), (s8_wa u8)), ((s8_wd u8), (allS ((s6_cy u6) 4)), (s8_al u8), (s8_wl u8), (xF (s6_mn u6) (s6_ink u6) (s6_t u6) (s6_dd u6)), (s8_pp u8), (s8_pj8 u8), (lyF (s6_Fs u6) (s6_Ft u6) (s6_t u6) ((s6_cy u6) 4) (s8_ke u8) ((s6_cy u6) 5))), g8_2 u8, g8_3 u8, g8_4 u8), List.Perm.refl _, List.Perm.refl _, hF, hG, hP, tw_of 0 ((if_pos hok).symm) (by decide) (by decide)⟩⟩
    · refine ⟨(wrI (W6 E x (((s6_g u6), (s6_xa u6), (s6_ra u6), (s6_caz u6), (s6_ca u6), (s6_pq u6), (s6_fl u6), (if okM p1 ((s6_cy u6) 3) then 0 else 1)), g6_1 u6, g6_2 u6, g6_3 u6, g6_4 u6, g6_5 u6, g6_6 u6, g6_7 u6, g6_8 u6, g6_9 u6, g6_10 u6)) (if okM p1 ((s6_cy u6) 3) then nI (bbits (fun d => decide (¬ kpN (s6_cy u6) (s6_Fs u6) (s6_Ft u6) (s6_t u6) (bdN (s6_ink u6) (s6_mn u6) p1 0) &&& swI (nI d) = 0)) ((s6_cy u6) 4)) else (-1))), (wrI (W8c E k (((s6_g u6), (s6_xa u6), (s6_ra u6), (s6_caz u6), (s6_ca u6), (s6_pq u6), (s6_fl u6), (if okM p1 ((s6_cy u6) 3) then 0 else 1)), g6_1 u6, g6_2 u6, g6_3 u6, g6_4 u6, g6_5 u6, g6_6 u6, g6_7 u6, g6_8 u6, g6_9 u6, g6_10 u6) (((s8_q u8), 0, 1, (-1), (s8_rr u8), (s8_z u8), (s8_nb u8), (s8_wa u8)), g8_1 u8, g8_2 u8, g8_3 u8, g8_4 u8)) ((-1))), Ct.perm hp6.symm (Ct.frI (c_X6_can l E x (s6_xa u6) (s6_g u6) (s6_tr u6) (s6_fl u6) (s6_pl u6) (s6_cy u6) (s6_ca u6) (s6_Fs u6) (s6_Ft u6) (s6_hi u6) (s6_hm u6) (s6_t u6) (s6_dd u6) (s6_ink u6) (s6_mn u6) p1 (by first | assumption | omega) (by first | assumption | omega) (by first | assumption | omega) (by first | assumption | omega) (by first | assumption | omega)) [0, 20, 26, 27, 36, 37, 38] rfl rfl rfl rfl), Ct.perm hp8.symm (Ct.frI (c_X8_can_no l E k (s8_th u8) (s8_tr8 u8) (s8_wh u8) (s8_g8 u8) (s8_rr u8) (s8_q u8) (upN (upN (upN (upN (s8_z u8) 6 (s6_fd u6)) 12 (s6_fl u6)) 19 (s6_ac u6)) 20 (s6_im u6)) (s8_nb u8) (s8_wa u8) (s8_wd u8) (s8_ev u8) (s8_al u8) (s8_wl u8) (s6_cy u6) (s8_kp u8) (s8_nc u8) (s8_cb u8) p1 (by first | assumption | omega)) [0, 10] rfl rfl rfl rfl), fun r w h => ⟨_, h.2⟩, ?_⟩
      rintro r w r' w' ⟨rfl, rfl⟩ ⟨rfl, rfl⟩
      exact ⟨congrArg (fun z => some (Value.int z)) (if_neg hok), Or.inr ⟨(((s6_g u6), (s6_xa u6), (s6_ra u6), (s6_caz u6), (s6_ca u6), (s6_pq u6), (s6_fl u6), (if okM p1 ((s6_cy u6) 3) then 0 else 1)), g6_1 u6, g6_2 u6, g6_3 u6, g6_4 u6, g6_5 u6, g6_6 u6, g6_7 u6, g6_8 u6, g6_9 u6, g6_10 u6), (((s8_q u8), 0, 1, (-1), (s8_rr u8), (s8_z u8), (s8_nb u8), (s8_wa u8)), g8_1 u8, g8_2 u8, g8_3 u8, g8_4 u8), List.Perm.refl _, List.Perm.refl _, hF, hG, hP, tw_of 1 ((if_neg hok).symm) (by decide) (by decide)⟩⟩
set_option maxRecDepth 100000 in
set_option maxHeartbeats 4000000 in
theorem op_must (l : Launch) (E : Et) (x k : Nat) (p1 : Int32) : OpI E x k (fun w P => Ct l E yX6_must cX6_must 2 (some .int) 6 0 0 [.ref x, .int p1] w P) (fun w P => Ct l E yX8_must cX8_must 2 (some .int) 5 0 0 [.ref k, .int p1] w P) := by
  intro w6 w8 hv
  rcases hv with hv | hv
  · obtain ⟨u6, u8, hp6, hp8, hF, hN, hW⟩ := hv
    have hfd := hF.1
    have hby := hF.2.1
    have hkw := hF.2.2.1
    have h40z := hF.2.2.2.1
    have h40 := hF.2.2.2.2.1
    have hink2 := hF.2.2.2.2.2.1
    have hwt := hF.2.2.2.2.2.2.1
    have hdy := hF.2.2.2.2.2.2.2.1
    have hds := hF.2.2.2.2.2.2.2.2.1
    have hink := hF.2.2.2.2.2.2.2.2.2.1
    have ht := hF.2.2.2.2.2.2.2.2.2.2.1
    have ho := hF.2.2.2.2.2.2.2.2.2.2.2.1
    have hac := hF.2.2.2.2.2.2.2.2.2.2.2.2.1
    have him := hF.2.2.2.2.2.2.2.2.2.2.2.2.2.1
    have hc0 := hF.2.2.2.2.2.2.2.2.2.2.2.2.2.2.1
    have hc1 := hF.2.2.2.2.2.2.2.2.2.2.2.2.2.2.2.1
    have hc2 := hF.2.2.2.2.2.2.2.2.2.2.2.2.2.2.2.2.1
    have hc3 := hF.2.2.2.2.2.2.2.2.2.2.2.2.2.2.2.2.2.1
    have hc4 := hF.2.2.2.2.2.2.2.2.2.2.2.2.2.2.2.2.2.2.1
    have hc5 := hF.2.2.2.2.2.2.2.2.2.2.2.2.2.2.2.2.2.2.2.1
    have hc6 := hF.2.2.2.2.2.2.2.2.2.2.2.2.2.2.2.2.2.2.2.2.1
    have hc7 := hF.2.2.2.2.2.2.2.2.2.2.2.2.2.2.2.2.2.2.2.2.2
    have htr := hW.1
    have htl := hW.2.1
    have hy0 := hN.1
    have hy3 : (s6_cy u6) 3 = 0 := hy0 3 (by decide)
    have hy4 : (s6_cy u6) 4 = 0 := hy0 4 (by decide)
    have hy5 : (s6_cy u6) 5 = 0 := hy0 5 (by decide)
    have hy6 : (s6_cy u6) 6 = 0 := hy0 6 (by decide)
    refine ⟨(wrI (W6 E x (((s6_g u6), (s6_xa u6), (s6_ra u6), (s6_caz u6), (s6_ca u6), (s6_pq u6), (s6_fl u6), (if okM p1 ((s6_cy u6) 3) then 0 else 1)), g6_1 u6, g6_2 u6, g6_3 u6, g6_4 u6, g6_5 u6, g6_6 u6, g6_7 u6, g6_8 u6, g6_9 u6, g6_10 u6)) (if okM p1 ((s6_cy u6) 3) then nI (bbits (fun d => decide (¬ kpN (s6_cy u6) (s6_Fs u6) (s6_Ft u6) (s6_t u6) (bdN (s6_ink u6) (s6_mn u6) p1 0) = 0 ∧ kpN (s6_cy u6) (s6_Fs u6) (s6_Ft u6) (s6_t u6) (bdN (s6_ink u6) (s6_mn u6) p1 0) &&& (swI (nI d) ^^^ full64) = 0)) ((s6_cy u6) 4)) else (-1))), (wrI (W8n E k (((s6_g u6), (s6_xa u6), (s6_ra u6), (s6_caz u6), (s6_ca u6), (s6_pq u6), (s6_fl u6), (if okM p1 ((s6_cy u6) 3) then 0 else 1)), g6_1 u6, g6_2 u6, g6_3 u6, g6_4 u6, g6_5 u6, g6_6 u6, g6_7 u6, g6_8 u6, g6_9 u6, g6_10 u6) (((s8_q u8), 0, 1, (-1), (s8_rr u8), (s8_z u8), (s8_nb u8), (s8_wa u8)), g8_1 u8, g8_2 u8, g8_3 u8, g8_4 u8)) ((-1))), Ct.perm hp6.symm (Ct.frI (c_X6_must l E x (s6_xa u6) (s6_g u6) (s6_tr u6) (s6_fl u6) (s6_pl u6) (s6_cy u6) (s6_ca u6) (s6_Fs u6) (s6_Ft u6) (s6_hi u6) (s6_hm u6) (s6_t u6) (s6_dd u6) (s6_ink u6) (s6_mn u6) p1 (by first | assumption | omega) (by first | assumption | omega) (by first | assumption | omega) (by first | assumption | omega) (by first | assumption | omega)) [0, 20, 26, 27, 36, 37, 38] rfl rfl rfl rfl), Ct.perm hp8.symm (Ct.frI (c_X8_must_n l E k (s8_th u8) (s8_tr8 u8) (s8_wh u8) (s8_rr u8) (s8_q u8) (upN (upN (upN (upN (s8_z u8) 6 (s6_fd u6)) 12 (s6_fl u6)) 19 (s6_ac u6)) 20 (s6_im u6)) (s8_nb u8) (s8_wa u8) (s8_wd u8) (s8_ev u8) (s8_al u8) (s8_wl u8) p1 ) [0] rfl rfl rfl rfl), fun r w h => ⟨_, h.2⟩, ?_⟩
    rintro r w r' w' ⟨rfl, rfl⟩ ⟨rfl, rfl⟩
    exact ⟨congrArg (fun z => some (Value.int z)) (if_neg (okM_0 hy3)), Or.inl ⟨(((s6_g u6), (s6_xa u6), (s6_ra u6), (s6_caz u6), (s6_ca u6), (s6_pq u6), (s6_fl u6), (if okM p1 ((s6_cy u6) 3) then 0 else 1)), g6_1 u6, g6_2 u6, g6_3 u6, g6_4 u6, g6_5 u6, g6_6 u6, g6_7 u6, g6_8 u6, g6_9 u6, g6_10 u6), (((s8_q u8), 0, 1, (-1), (s8_rr u8), (s8_z u8), (s8_nb u8), (s8_wa u8)), g8_1 u8, g8_2 u8, g8_3 u8, g8_4 u8), List.Perm.refl _, List.Perm.refl _, hF, hN, tw_of 1 ((if_neg (okM_0 hy3)).symm) (by decide) (by decide)⟩⟩
  · obtain ⟨u6, u8, hp6, hp8, hF, hG, hP, hW⟩ := hv
    have hfd := hF.1
    have hby := hF.2.1
    have hkw := hF.2.2.1
    have h40z := hF.2.2.2.1
    have h40 := hF.2.2.2.2.1
    have hink2 := hF.2.2.2.2.2.1
    have hwt := hF.2.2.2.2.2.2.1
    have hdy := hF.2.2.2.2.2.2.2.1
    have hds := hF.2.2.2.2.2.2.2.2.1
    have hink := hF.2.2.2.2.2.2.2.2.2.1
    have ht := hF.2.2.2.2.2.2.2.2.2.2.1
    have ho := hF.2.2.2.2.2.2.2.2.2.2.2.1
    have hac := hF.2.2.2.2.2.2.2.2.2.2.2.2.1
    have him := hF.2.2.2.2.2.2.2.2.2.2.2.2.2.1
    have hc0 := hF.2.2.2.2.2.2.2.2.2.2.2.2.2.2.1
    have hc1 := hF.2.2.2.2.2.2.2.2.2.2.2.2.2.2.2.1
    have hc2 := hF.2.2.2.2.2.2.2.2.2.2.2.2.2.2.2.2.1
    have hc3 := hF.2.2.2.2.2.2.2.2.2.2.2.2.2.2.2.2.2.1
    have hc4 := hF.2.2.2.2.2.2.2.2.2.2.2.2.2.2.2.2.2.2.1
    have hc5 := hF.2.2.2.2.2.2.2.2.2.2.2.2.2.2.2.2.2.2.2.1
    have hc6 := hF.2.2.2.2.2.2.2.2.2.2.2.2.2.2.2.2.2.2.2.2.1
    have hc7 := hF.2.2.2.2.2.2.2.2.2.2.2.2.2.2.2.2.2.2.2.2.2
    have htr := hW.1
    have htl := hW.2.1
    have hgb := g8_b hc4 hc5 hc7 hG
    have hfo := hgb.1
    have hon := hgb.2.1
    have htw := hgb.2.2.1
    have hFs := hgb.2.2.2.1
    have hFt := hgb.2.2.2.2.1
    have hik := hgb.2.2.2.2.2.1
    have hun := hgb.2.2.2.2.2.2.1
    have hdi := hgb.2.2.2.2.2.2.2.1
    have hd2 := hgb.2.2.2.2.2.2.2.2.1
    have hd3 := hgb.2.2.2.2.2.2.2.2.2.1
    have hkp := hgb.2.2.2.2.2.2.2.2.2.2.1
    have hm1 := hgb.2.2.2.2.2.2.2.2.2.2.2.1
    have hal_ := hgb.2.2.2.2.2.2.2.2.2.2.2.2
    have hal := hal_ (s6_t u6)
    have hz : ∀ c, (s6_cy u6) 5 ≤ c → (s6_ink u6) c = 0 := hP.1.2.1
    have hmz : ∀ c, (s6_cy u6) 5 ≤ c → (s6_mn u6) c = -1 := hP.1.2.2.1
    have hdd9 : (s6_dd u6) ≤ 999 := hP.1.2.2.2.2
    have hw8 := w8_e hG
    have h30 : ¬ (s6_cy u6) 3 = 0 := by omega
    by_cases hok : okM p1 ((s6_cy u6) 3)
    · refine ⟨(wrI (W6 E x (((s6_g u6), (s6_xa u6), (s6_ra u6), (s6_caz u6), (s6_ca u6), (s6_pq u6), (s6_fl u6), (if okM p1 ((s6_cy u6) 3) then 0 else 1)), g6_1 u6, g6_2 u6, g6_3 u6, g6_4 u6, g6_5 u6, g6_6 u6, g6_7 u6, g6_8 u6, g6_9 u6, g6_10 u6)) (if okM p1 ((s6_cy u6) 3) then nI (bbits (fun d => decide (¬ kpN (s6_cy u6) (s6_Fs u6) (s6_Ft u6) (s6_t u6) (bdN (s6_ink u6) (s6_mn u6) p1 0) = 0 ∧ kpN (s6_cy u6) (s6_Fs u6) (s6_Ft u6) (s6_t u6) (bdN (s6_ink u6) (s6_mn u6) p1 0) &&& (swI (nI d) ^^^ full64) = 0)) ((s6_cy u6) 4)) else (-1))), (wrI (W8c E k (((s6_g u6), (s6_xa u6), (s6_ra u6), (s6_caz u6), (s6_ca u6), (s6_pq u6), (s6_fl u6), (if okM p1 ((s6_cy u6) 3) then 0 else 1)), g6_1 u6, g6_2 u6, g6_3 u6, g6_4 u6, g6_5 u6, g6_6 u6, g6_7 u6, g6_8 u6, g6_9 u6, g6_10 u6) (((s8_q u8), 0, 0, (-1), (s8_rr u8), (s8_z u8), (s8_nb u8), (s8_wa u8)), ((s8_wd u8), (allS ((s6_cy u6) 4)), (s8_al u8), (s8_wl u8), (xF (s6_mn u6) (s6_ink u6) (s6_t u6) (s6_dd u6)), (s8_pp u8), (s8_pj8 u8), (lyF (s6_Fs u6) (s6_Ft u6) (s6_t u6) ((s6_cy u6) 4) (s8_ke u8) ((s6_cy u6) 5))), g8_2 u8, g8_3 u8, g8_4 u8)) (nI (bbits (fun d => decide (¬ kpN (s6_cy u6) (s6_Fs u6) (s6_Ft u6) (s6_t u6) (bdN (s6_ink u6) (s6_mn u6) p1 0) = 0 ∧ kpN (s6_cy u6) (s6_Fs u6) (s6_Ft u6) (s6_t u6) (bdN (s6_ink u6) (s6_mn u6) p1 0) &&& (swI (nI d) ^^^ full64) = 0)) ((s6_cy u6) 4)))), Ct.perm hp6.symm (Ct.frI (c_X6_must l E x (s6_xa u6) (s6_g u6) (s6_tr u6) (s6_fl u6) (s6_pl u6) (s6_cy u6) (s6_ca u6) (s6_Fs u6) (s6_Ft u6) (s6_hi u6) (s6_hm u6) (s6_t u6) (s6_dd u6) (s6_ink u6) (s6_mn u6) p1 (by first | assumption | omega) (by first | assumption | omega) (by first | assumption | omega) (by first | assumption | omega) (by first | assumption | omega)) [0, 20, 26, 27, 36, 37, 38] rfl rfl rfl rfl), Ct.perm hp8.symm (Ct.frI (c_X8_must l E k (s8_th u8) (s8_tr8 u8) (s8_wh u8) (s8_g8 u8) (s8_rr u8) (s8_q u8) (upN (upN (upN (upN (s8_z u8) 6 (s6_fd u6)) 12 (s6_fl u6)) 19 (s6_ac u6)) 20 (s6_im u6)) (s8_nb u8) (s8_wa u8) (s8_wd u8) (s8_ev u8) (s8_al u8) (s8_wl u8) (s6_cy u6) (s8_kp u8) (s8_nc u8) (s8_cb u8) (s8_gf u8) (s8_go_ u8) (s8_gt_ u8) (s8_xf u8) (s6_mn u6) (s6_ink u6) (s6_t u6) (s6_dd u6) (s6_Fs u6) (s6_Ft u6) (s8_ke u8) p1 (by first | assumption | omega) (by first | assumption | omega) (by first | assumption | omega) (by first | assumption | omega) (by first | assumption | omega) (by first | assumption | omega) (by first | assumption | omega) (by first | assumption | omega) (by first | assumption | omega) (by first | assumption | omega)) [0, 10, 13, 14, 15, 2, 3, 6] rfl rfl rfl rfl), fun r w h => ⟨_, h.2⟩, ?_⟩
      rintro r w r' w' ⟨rfl, rfl⟩ ⟨rfl, rfl⟩
      exact ⟨congrArg (fun z => some (Value.int z)) (if_pos hok), Or.inr ⟨(((s6_g u6), (s6_xa u6), (s6_ra u6), (s6_caz u6), (s6_ca u6), (s6_pq u6), (s6_fl u6), (if okM p1 ((s6_cy u6) 3) then 0 else 1)), g6_1 u6, g6_2 u6, g6_3 u6, g6_4 u6, g6_5 u6, g6_6 u6, g6_7 u6, g6_8 u6, g6_9 u6, g6_10 u6), (((s8_q u8), 0, 0, (-1), (s8_rr u8), (s8_z u8), (s8_nb u8), (s8_wa u8)), ((s8_wd u8), (allS ((s6_cy u6) 4)), (s8_al u8), (s8_wl u8), (xF (s6_mn u6) (s6_ink u6) (s6_t u6) (s6_dd u6)), (s8_pp u8), (s8_pj8 u8), (lyF (s6_Fs u6) (s6_Ft u6) (s6_t u6) ((s6_cy u6) 4) (s8_ke u8) ((s6_cy u6) 5))), g8_2 u8, g8_3 u8, g8_4 u8), List.Perm.refl _, List.Perm.refl _, hF, hG, hP, tw_of 0 ((if_pos hok).symm) (by decide) (by decide)⟩⟩
    · refine ⟨(wrI (W6 E x (((s6_g u6), (s6_xa u6), (s6_ra u6), (s6_caz u6), (s6_ca u6), (s6_pq u6), (s6_fl u6), (if okM p1 ((s6_cy u6) 3) then 0 else 1)), g6_1 u6, g6_2 u6, g6_3 u6, g6_4 u6, g6_5 u6, g6_6 u6, g6_7 u6, g6_8 u6, g6_9 u6, g6_10 u6)) (if okM p1 ((s6_cy u6) 3) then nI (bbits (fun d => decide (¬ kpN (s6_cy u6) (s6_Fs u6) (s6_Ft u6) (s6_t u6) (bdN (s6_ink u6) (s6_mn u6) p1 0) = 0 ∧ kpN (s6_cy u6) (s6_Fs u6) (s6_Ft u6) (s6_t u6) (bdN (s6_ink u6) (s6_mn u6) p1 0) &&& (swI (nI d) ^^^ full64) = 0)) ((s6_cy u6) 4)) else (-1))), (wrI (W8c E k (((s6_g u6), (s6_xa u6), (s6_ra u6), (s6_caz u6), (s6_ca u6), (s6_pq u6), (s6_fl u6), (if okM p1 ((s6_cy u6) 3) then 0 else 1)), g6_1 u6, g6_2 u6, g6_3 u6, g6_4 u6, g6_5 u6, g6_6 u6, g6_7 u6, g6_8 u6, g6_9 u6, g6_10 u6) (((s8_q u8), 0, 1, (-1), (s8_rr u8), (s8_z u8), (s8_nb u8), (s8_wa u8)), g8_1 u8, g8_2 u8, g8_3 u8, g8_4 u8)) ((-1))), Ct.perm hp6.symm (Ct.frI (c_X6_must l E x (s6_xa u6) (s6_g u6) (s6_tr u6) (s6_fl u6) (s6_pl u6) (s6_cy u6) (s6_ca u6) (s6_Fs u6) (s6_Ft u6) (s6_hi u6) (s6_hm u6) (s6_t u6) (s6_dd u6) (s6_ink u6) (s6_mn u6) p1 (by first | assumption | omega) (by first | assumption | omega) (by first | assumption | omega) (by first | assumption | omega) (by first | assumption | omega)) [0, 20, 26, 27, 36, 37, 38] rfl rfl rfl rfl), Ct.perm hp8.symm (Ct.frI (c_X8_must_no l E k (s8_th u8) (s8_tr8 u8) (s8_wh u8) (s8_g8 u8) (s8_rr u8) (s8_q u8) (upN (upN (upN (upN (s8_z u8) 6 (s6_fd u6)) 12 (s6_fl u6)) 19 (s6_ac u6)) 20 (s6_im u6)) (s8_nb u8) (s8_wa u8) (s8_wd u8) (s8_ev u8) (s8_al u8) (s8_wl u8) (s6_cy u6) (s8_kp u8) (s8_nc u8) (s8_cb u8) p1 (by first | assumption | omega)) [0, 10] rfl rfl rfl rfl), fun r w h => ⟨_, h.2⟩, ?_⟩
      rintro r w r' w' ⟨rfl, rfl⟩ ⟨rfl, rfl⟩
      exact ⟨congrArg (fun z => some (Value.int z)) (if_neg hok), Or.inr ⟨(((s6_g u6), (s6_xa u6), (s6_ra u6), (s6_caz u6), (s6_ca u6), (s6_pq u6), (s6_fl u6), (if okM p1 ((s6_cy u6) 3) then 0 else 1)), g6_1 u6, g6_2 u6, g6_3 u6, g6_4 u6, g6_5 u6, g6_6 u6, g6_7 u6, g6_8 u6, g6_9 u6, g6_10 u6), (((s8_q u8), 0, 1, (-1), (s8_rr u8), (s8_z u8), (s8_nb u8), (s8_wa u8)), g8_1 u8, g8_2 u8, g8_3 u8, g8_4 u8), List.Perm.refl _, List.Perm.refl _, hF, hG, hP, tw_of 1 ((if_neg hok).symm) (by decide) (by decide)⟩⟩
set_option maxRecDepth 100000 in
set_option maxHeartbeats 4000000 in
theorem op_idlest (l : Launch) (E : Et) (x k : Nat) (p1 : Int32) : OpI E x k (fun w P => Ct l E yX6_idlest cX6_idlest 6 (some .int) 6 0 0 [.ref x, .int p1] w P) (fun w P => Ct l E yX8_idlest cX8_idlest 6 (some .int) 5 0 0 [.ref k, .int p1] w P) := by
  intro w6 w8 hv
  rcases hv with hv | hv
  · obtain ⟨u6, u8, hp6, hp8, hF, hN, hW⟩ := hv
    have hfd := hF.1
    have hby := hF.2.1
    have hkw := hF.2.2.1
    have h40z := hF.2.2.2.1
    have h40 := hF.2.2.2.2.1
    have hink2 := hF.2.2.2.2.2.1
    have hwt := hF.2.2.2.2.2.2.1
    have hdy := hF.2.2.2.2.2.2.2.1
    have hds := hF.2.2.2.2.2.2.2.2.1
    have hink := hF.2.2.2.2.2.2.2.2.2.1
    have ht := hF.2.2.2.2.2.2.2.2.2.2.1
    have ho := hF.2.2.2.2.2.2.2.2.2.2.2.1
    have hac := hF.2.2.2.2.2.2.2.2.2.2.2.2.1
    have him := hF.2.2.2.2.2.2.2.2.2.2.2.2.2.1
    have hc0 := hF.2.2.2.2.2.2.2.2.2.2.2.2.2.2.1
    have hc1 := hF.2.2.2.2.2.2.2.2.2.2.2.2.2.2.2.1
    have hc2 := hF.2.2.2.2.2.2.2.2.2.2.2.2.2.2.2.2.1
    have hc3 := hF.2.2.2.2.2.2.2.2.2.2.2.2.2.2.2.2.2.1
    have hc4 := hF.2.2.2.2.2.2.2.2.2.2.2.2.2.2.2.2.2.2.1
    have hc5 := hF.2.2.2.2.2.2.2.2.2.2.2.2.2.2.2.2.2.2.2.1
    have hc6 := hF.2.2.2.2.2.2.2.2.2.2.2.2.2.2.2.2.2.2.2.2.1
    have hc7 := hF.2.2.2.2.2.2.2.2.2.2.2.2.2.2.2.2.2.2.2.2.2
    have htr := hW.1
    have htl := hW.2.1
    have hy0 := hN.1
    have hy3 : (s6_cy u6) 3 = 0 := hy0 3 (by decide)
    have hy4 : (s6_cy u6) 4 = 0 := hy0 4 (by decide)
    have hy5 : (s6_cy u6) 5 = 0 := hy0 5 (by decide)
    have hy6 : (s6_cy u6) 6 = 0 := hy0 6 (by decide)
    refine ⟨(wrI (W6 E x (((s6_g u6), (s6_xa u6), (s6_ra u6), (s6_caz u6), (s6_ca u6), (s6_pq u6), (s6_fl u6), (if okM p1 ((s6_cy u6) 3) then 0 else 1)), g6_1 u6, g6_2 u6, g6_3 u6, g6_4 u6, g6_5 u6, g6_6 u6, g6_7 u6, g6_8 u6, g6_9 u6, g6_10 u6)) (if okM p1 ((s6_cy u6) 3) then optI (bestO (fun s => (kpN (s6_cy u6) (s6_Fs u6) (s6_Ft u6) (s6_t u6) (bdN (s6_ink u6) (s6_mn u6) p1 0)).testBit s) (fun p qx => decide (pop8 p < pop8 qx)) (2 ^ (s6_cy u6) 4)) else (-1))), (wrI (W8n E k (((s6_g u6), (s6_xa u6), (s6_ra u6), (s6_caz u6), (s6_ca u6), (s6_pq u6), (s6_fl u6), (if okM p1 ((s6_cy u6) 3) then 0 else 1)), g6_1 u6, g6_2 u6, g6_3 u6, g6_4 u6, g6_5 u6, g6_6 u6, g6_7 u6, g6_8 u6, g6_9 u6, g6_10 u6) (((s8_q u8), 0, 1, (-1), (s8_rr u8), (s8_z u8), (s8_nb u8), (s8_wa u8)), g8_1 u8, g8_2 u8, g8_3 u8, g8_4 u8)) ((-1))), Ct.perm hp6.symm (Ct.frI (c_X6_idlest l E x (s6_xa u6) (s6_g u6) (s6_tr u6) (s6_fl u6) (s6_pl u6) (s6_cy u6) (s6_ca u6) (s6_Fs u6) (s6_Ft u6) (s6_hi u6) (s6_hm u6) (s6_t u6) (s6_dd u6) (s6_ink u6) (s6_mn u6) p1 (by first | assumption | omega) (by first | assumption | omega) (by first | assumption | omega) (by first | assumption | omega) (by first | assumption | omega)) [0, 20, 26, 27, 36, 37, 38] rfl rfl rfl rfl), Ct.perm hp8.symm (Ct.frI (c_X8_idlest_n l E k (s8_th u8) (s8_tr8 u8) (s8_wh u8) (s8_rr u8) (s8_q u8) (upN (upN (upN (upN (s8_z u8) 6 (s6_fd u6)) 12 (s6_fl u6)) 19 (s6_ac u6)) 20 (s6_im u6)) (s8_nb u8) (s8_wa u8) (s8_wd u8) (s8_ev u8) (s8_al u8) (s8_wl u8) p1 ) [0] rfl rfl rfl rfl), fun r w h => ⟨_, h.2⟩, ?_⟩
    rintro r w r' w' ⟨rfl, rfl⟩ ⟨rfl, rfl⟩
    exact ⟨congrArg (fun z => some (Value.int z)) (if_neg (okM_0 hy3)), Or.inl ⟨(((s6_g u6), (s6_xa u6), (s6_ra u6), (s6_caz u6), (s6_ca u6), (s6_pq u6), (s6_fl u6), (if okM p1 ((s6_cy u6) 3) then 0 else 1)), g6_1 u6, g6_2 u6, g6_3 u6, g6_4 u6, g6_5 u6, g6_6 u6, g6_7 u6, g6_8 u6, g6_9 u6, g6_10 u6), (((s8_q u8), 0, 1, (-1), (s8_rr u8), (s8_z u8), (s8_nb u8), (s8_wa u8)), g8_1 u8, g8_2 u8, g8_3 u8, g8_4 u8), List.Perm.refl _, List.Perm.refl _, hF, hN, tw_of 1 ((if_neg (okM_0 hy3)).symm) (by decide) (by decide)⟩⟩
  · obtain ⟨u6, u8, hp6, hp8, hF, hG, hP, hW⟩ := hv
    have hfd := hF.1
    have hby := hF.2.1
    have hkw := hF.2.2.1
    have h40z := hF.2.2.2.1
    have h40 := hF.2.2.2.2.1
    have hink2 := hF.2.2.2.2.2.1
    have hwt := hF.2.2.2.2.2.2.1
    have hdy := hF.2.2.2.2.2.2.2.1
    have hds := hF.2.2.2.2.2.2.2.2.1
    have hink := hF.2.2.2.2.2.2.2.2.2.1
    have ht := hF.2.2.2.2.2.2.2.2.2.2.1
    have ho := hF.2.2.2.2.2.2.2.2.2.2.2.1
    have hac := hF.2.2.2.2.2.2.2.2.2.2.2.2.1
    have him := hF.2.2.2.2.2.2.2.2.2.2.2.2.2.1
    have hc0 := hF.2.2.2.2.2.2.2.2.2.2.2.2.2.2.1
    have hc1 := hF.2.2.2.2.2.2.2.2.2.2.2.2.2.2.2.1
    have hc2 := hF.2.2.2.2.2.2.2.2.2.2.2.2.2.2.2.2.1
    have hc3 := hF.2.2.2.2.2.2.2.2.2.2.2.2.2.2.2.2.2.1
    have hc4 := hF.2.2.2.2.2.2.2.2.2.2.2.2.2.2.2.2.2.2.1
    have hc5 := hF.2.2.2.2.2.2.2.2.2.2.2.2.2.2.2.2.2.2.2.1
    have hc6 := hF.2.2.2.2.2.2.2.2.2.2.2.2.2.2.2.2.2.2.2.2.1
    have hc7 := hF.2.2.2.2.2.2.2.2.2.2.2.2.2.2.2.2.2.2.2.2.2
    have htr := hW.1
    have htl := hW.2.1
    have hgb := g8_b hc4 hc5 hc7 hG
    have hfo := hgb.1
    have hon := hgb.2.1
    have htw := hgb.2.2.1
    have hFs := hgb.2.2.2.1
    have hFt := hgb.2.2.2.2.1
    have hik := hgb.2.2.2.2.2.1
    have hun := hgb.2.2.2.2.2.2.1
    have hdi := hgb.2.2.2.2.2.2.2.1
    have hd2 := hgb.2.2.2.2.2.2.2.2.1
    have hd3 := hgb.2.2.2.2.2.2.2.2.2.1
    have hkp := hgb.2.2.2.2.2.2.2.2.2.2.1
    have hm1 := hgb.2.2.2.2.2.2.2.2.2.2.2.1
    have hal_ := hgb.2.2.2.2.2.2.2.2.2.2.2.2
    have hal := hal_ (s6_t u6)
    have hz : ∀ c, (s6_cy u6) 5 ≤ c → (s6_ink u6) c = 0 := hP.1.2.1
    have hmz : ∀ c, (s6_cy u6) 5 ≤ c → (s6_mn u6) c = -1 := hP.1.2.2.1
    have hdd9 : (s6_dd u6) ≤ 999 := hP.1.2.2.2.2
    have hw8 := w8_e hG
    have h30 : ¬ (s6_cy u6) 3 = 0 := by omega
    by_cases hok : okM p1 ((s6_cy u6) 3)
    · refine ⟨(wrI (W6 E x (((s6_g u6), (s6_xa u6), (s6_ra u6), (s6_caz u6), (s6_ca u6), (s6_pq u6), (s6_fl u6), (if okM p1 ((s6_cy u6) 3) then 0 else 1)), g6_1 u6, g6_2 u6, g6_3 u6, g6_4 u6, g6_5 u6, g6_6 u6, g6_7 u6, g6_8 u6, g6_9 u6, g6_10 u6)) (if okM p1 ((s6_cy u6) 3) then optI (bestO (fun s => (kpN (s6_cy u6) (s6_Fs u6) (s6_Ft u6) (s6_t u6) (bdN (s6_ink u6) (s6_mn u6) p1 0)).testBit s) (fun p qx => decide (pop8 p < pop8 qx)) (2 ^ (s6_cy u6) 4)) else (-1))), (wrI (W8c E k (((s6_g u6), (s6_xa u6), (s6_ra u6), (s6_caz u6), (s6_ca u6), (s6_pq u6), (s6_fl u6), (if okM p1 ((s6_cy u6) 3) then 0 else 1)), g6_1 u6, g6_2 u6, g6_3 u6, g6_4 u6, g6_5 u6, g6_6 u6, g6_7 u6, g6_8 u6, g6_9 u6, g6_10 u6) (((s8_q u8), 0, 0, (-1), (s8_rr u8), (s8_z u8), (s8_nb u8), (s8_wa u8)), ((s8_wd u8), (allS ((s6_cy u6) 4)), (s8_al u8), (s8_wl u8), (xF (s6_mn u6) (s6_ink u6) (s6_t u6) (s6_dd u6)), (s8_pp u8), (s8_pj8 u8), (lyF (s6_Fs u6) (s6_Ft u6) (s6_t u6) ((s6_cy u6) 4) (s8_ke u8) ((s6_cy u6) 5))), g8_2 u8, g8_3 u8, g8_4 u8)) (optI (bestO (fun s => (kpN (s6_cy u6) (s6_Fs u6) (s6_Ft u6) (s6_t u6) (bdN (s6_ink u6) (s6_mn u6) p1 0)).testBit s) (fun p qx => decide (pop8 p < pop8 qx)) (2 ^ (s6_cy u6) 4)))), Ct.perm hp6.symm (Ct.frI (c_X6_idlest l E x (s6_xa u6) (s6_g u6) (s6_tr u6) (s6_fl u6) (s6_pl u6) (s6_cy u6) (s6_ca u6) (s6_Fs u6) (s6_Ft u6) (s6_hi u6) (s6_hm u6) (s6_t u6) (s6_dd u6) (s6_ink u6) (s6_mn u6) p1 (by first | assumption | omega) (by first | assumption | omega) (by first | assumption | omega) (by first | assumption | omega) (by first | assumption | omega)) [0, 20, 26, 27, 36, 37, 38] rfl rfl rfl rfl), Ct.perm hp8.symm (Ct.frI (c_X8_idlest l E k (s8_th u8) (s8_tr8 u8) (s8_wh u8) (s8_g8 u8) (s8_rr u8) (s8_q u8) (upN (upN (upN (upN (s8_z u8) 6 (s6_fd u6)) 12 (s6_fl u6)) 19 (s6_ac u6)) 20 (s6_im u6)) (s8_nb u8) (s8_wa u8) (s8_wd u8) (s8_ev u8) (s8_al u8) (s8_wl u8) (s6_cy u6) (s8_kp u8) (s8_nc u8) (s8_cb u8) (s8_gf u8) (s8_go_ u8) (s8_gt_ u8) (s8_xf u8) (s6_mn u6) (s6_ink u6) (s6_t u6) (s6_dd u6) (s6_Fs u6) (s6_Ft u6) (s8_ke u8) p1 (by first | assumption | omega) (by first | assumption | omega) (by first | assumption | omega) (by first | assumption | omega) (by first | assumption | omega) (by first | assumption | omega) (by first | assumption | omega) (by first | assumption | omega) (by first | assumption | omega) (by first | assumption | omega)) [0, 10, 13, 14, 15, 2, 3, 6] rfl rfl rfl rfl), fun r w h => ⟨_, h.2⟩, ?_⟩
      rintro r w r' w' ⟨rfl, rfl⟩ ⟨rfl, rfl⟩
      exact ⟨congrArg (fun z => some (Value.int z)) (if_pos hok), Or.inr ⟨(((s6_g u6), (s6_xa u6), (s6_ra u6), (s6_caz u6), (s6_ca u6), (s6_pq u6), (s6_fl u6), (if okM p1 ((s6_cy u6) 3) then 0 else 1)), g6_1 u6, g6_2 u6, g6_3 u6, g6_4 u6, g6_5 u6, g6_6 u6, g6_7 u6, g6_8 u6, g6_9 u6, g6_10 u6), (((s8_q u8), 0, 0, (-1), (s8_rr u8), (s8_z u8), (s8_nb u8), (s8_wa u8)), ((s8_wd u8), (allS ((s6_cy u6) 4)), (s8_al u8), (s8_wl u8), (xF (s6_mn u6) (s6_ink u6) (s6_t u6) (s6_dd u6)), (s8_pp u8), (s8_pj8 u8), (lyF (s6_Fs u6) (s6_Ft u6) (s6_t u6) ((s6_cy u6) 4) (s8_ke u8) ((s6_cy u6) 5))), g8_2 u8, g8_3 u8, g8_4 u8), List.Perm.refl _, List.Perm.refl _, hF, hG, hP, tw_of 0 ((if_pos hok).symm) (by decide) (by decide)⟩⟩
    · refine ⟨(wrI (W6 E x (((s6_g u6), (s6_xa u6), (s6_ra u6), (s6_caz u6), (s6_ca u6), (s6_pq u6), (s6_fl u6), (if okM p1 ((s6_cy u6) 3) then 0 else 1)), g6_1 u6, g6_2 u6, g6_3 u6, g6_4 u6, g6_5 u6, g6_6 u6, g6_7 u6, g6_8 u6, g6_9 u6, g6_10 u6)) (if okM p1 ((s6_cy u6) 3) then optI (bestO (fun s => (kpN (s6_cy u6) (s6_Fs u6) (s6_Ft u6) (s6_t u6) (bdN (s6_ink u6) (s6_mn u6) p1 0)).testBit s) (fun p qx => decide (pop8 p < pop8 qx)) (2 ^ (s6_cy u6) 4)) else (-1))), (wrI (W8c E k (((s6_g u6), (s6_xa u6), (s6_ra u6), (s6_caz u6), (s6_ca u6), (s6_pq u6), (s6_fl u6), (if okM p1 ((s6_cy u6) 3) then 0 else 1)), g6_1 u6, g6_2 u6, g6_3 u6, g6_4 u6, g6_5 u6, g6_6 u6, g6_7 u6, g6_8 u6, g6_9 u6, g6_10 u6) (((s8_q u8), 0, 1, (-1), (s8_rr u8), (s8_z u8), (s8_nb u8), (s8_wa u8)), g8_1 u8, g8_2 u8, g8_3 u8, g8_4 u8)) ((-1))), Ct.perm hp6.symm (Ct.frI (c_X6_idlest l E x (s6_xa u6) (s6_g u6) (s6_tr u6) (s6_fl u6) (s6_pl u6) (s6_cy u6) (s6_ca u6) (s6_Fs u6) (s6_Ft u6) (s6_hi u6) (s6_hm u6) (s6_t u6) (s6_dd u6) (s6_ink u6) (s6_mn u6) p1 (by first | assumption | omega) (by first | assumption | omega) (by first | assumption | omega) (by first | assumption | omega) (by first | assumption | omega)) [0, 20, 26, 27, 36, 37, 38] rfl rfl rfl rfl), Ct.perm hp8.symm (Ct.frI (c_X8_idlest_no l E k (s8_th u8) (s8_tr8 u8) (s8_wh u8) (s8_g8 u8) (s8_rr u8) (s8_q u8) (upN (upN (upN (upN (s8_z u8) 6 (s6_fd u6)) 12 (s6_fl u6)) 19 (s6_ac u6)) 20 (s6_im u6)) (s8_nb u8) (s8_wa u8) (s8_wd u8) (s8_ev u8) (s8_al u8) (s8_wl u8) (s6_cy u6) (s8_kp u8) (s8_nc u8) (s8_cb u8) p1 (by first | assumption | omega)) [0, 10] rfl rfl rfl rfl), fun r w h => ⟨_, h.2⟩, ?_⟩
      rintro r w r' w' ⟨rfl, rfl⟩ ⟨rfl, rfl⟩
      exact ⟨congrArg (fun z => some (Value.int z)) (if_neg hok), Or.inr ⟨(((s6_g u6), (s6_xa u6), (s6_ra u6), (s6_caz u6), (s6_ca u6), (s6_pq u6), (s6_fl u6), (if okM p1 ((s6_cy u6) 3) then 0 else 1)), g6_1 u6, g6_2 u6, g6_3 u6, g6_4 u6, g6_5 u6, g6_6 u6, g6_7 u6, g6_8 u6, g6_9 u6, g6_10 u6), (((s8_q u8), 0, 1, (-1), (s8_rr u8), (s8_z u8), (s8_nb u8), (s8_wa u8)), g8_1 u8, g8_2 u8, g8_3 u8, g8_4 u8), List.Perm.refl _, List.Perm.refl _, hF, hG, hP, tw_of 1 ((if_neg hok).symm) (by decide) (by decide)⟩⟩
set_option maxRecDepth 100000 in
set_option maxHeartbeats 4000000 in
theorem op_bar (l : Launch) (E : Et) (x k : Nat) (p1 : Int32) : OpI E x k (fun w P => Ct l E yX6_bar cX6_bar 5 (some .int) 6 0 0 [.ref x, .int p1] w P) (fun w P => Ct l E yX8_bar cX8_bar 5 (some .int) 5 0 0 [.ref k, .int p1] w P) := by
  intro w6 w8 hv
  rcases hv with hv | hv
  · obtain ⟨u6, u8, hp6, hp8, hF, hN, hW⟩ := hv
    have hfd := hF.1
    have hby := hF.2.1
    have hkw := hF.2.2.1
    have h40z := hF.2.2.2.1
    have h40 := hF.2.2.2.2.1
    have hink2 := hF.2.2.2.2.2.1
    have hwt := hF.2.2.2.2.2.2.1
    have hdy := hF.2.2.2.2.2.2.2.1
    have hds := hF.2.2.2.2.2.2.2.2.1
    have hink := hF.2.2.2.2.2.2.2.2.2.1
    have ht := hF.2.2.2.2.2.2.2.2.2.2.1
    have ho := hF.2.2.2.2.2.2.2.2.2.2.2.1
    have hac := hF.2.2.2.2.2.2.2.2.2.2.2.2.1
    have him := hF.2.2.2.2.2.2.2.2.2.2.2.2.2.1
    have hc0 := hF.2.2.2.2.2.2.2.2.2.2.2.2.2.2.1
    have hc1 := hF.2.2.2.2.2.2.2.2.2.2.2.2.2.2.2.1
    have hc2 := hF.2.2.2.2.2.2.2.2.2.2.2.2.2.2.2.2.1
    have hc3 := hF.2.2.2.2.2.2.2.2.2.2.2.2.2.2.2.2.2.1
    have hc4 := hF.2.2.2.2.2.2.2.2.2.2.2.2.2.2.2.2.2.2.1
    have hc5 := hF.2.2.2.2.2.2.2.2.2.2.2.2.2.2.2.2.2.2.2.1
    have hc6 := hF.2.2.2.2.2.2.2.2.2.2.2.2.2.2.2.2.2.2.2.2.1
    have hc7 := hF.2.2.2.2.2.2.2.2.2.2.2.2.2.2.2.2.2.2.2.2.2
    have htr := hW.1
    have htl := hW.2.1
    have hy0 := hN.1
    have hy3 : (s6_cy u6) 3 = 0 := hy0 3 (by decide)
    have hy4 : (s6_cy u6) 4 = 0 := hy0 4 (by decide)
    have hy5 : (s6_cy u6) 5 = 0 := hy0 5 (by decide)
    have hy6 : (s6_cy u6) 6 = 0 := hy0 6 (by decide)
    refine ⟨(wrI (W6 E x (((s6_g u6), (s6_xa u6), (s6_ra u6), (s6_caz u6), (s6_ca u6), (s6_pq u6), (s6_fl u6), (if okM p1 ((s6_cy u6) 3) then 0 else 1)), g6_1 u6, g6_2 u6, g6_3 u6, g6_4 u6, g6_5 u6, g6_6 u6, g6_7 u6, g6_8 u6, g6_9 u6, g6_10 u6)) (if okM p1 ((s6_cy u6) 3) then optI (bestO (fun p => decide (ndf p (bdN (s6_ink u6) (s6_mn u6) p1 0) = 0 ∧ kpN (s6_cy u6) (s6_Fs u6) (s6_Ft u6) (s6_t u6) p = 0)) (fun p qx => decide (pop8 p < pop8 qx)) (bdN (s6_ink u6) (s6_mn u6) p1 0 + 1)) else (-1))), (wrI (W8n E k (((s6_g u6), (s6_xa u6), (s6_ra u6), (s6_caz u6), (s6_ca u6), (s6_pq u6), (s6_fl u6), (if okM p1 ((s6_cy u6) 3) then 0 else 1)), g6_1 u6, g6_2 u6, g6_3 u6, g6_4 u6, g6_5 u6, g6_6 u6, g6_7 u6, g6_8 u6, g6_9 u6, g6_10 u6) (((s8_q u8), 0, 1, (-1), (s8_rr u8), (s8_z u8), (s8_nb u8), (s8_wa u8)), g8_1 u8, g8_2 u8, g8_3 u8, g8_4 u8)) ((-1))), Ct.perm hp6.symm (Ct.frI (c_X6_bar l E x (s6_xa u6) (s6_g u6) (s6_tr u6) (s6_fl u6) (s6_pl u6) (s6_cy u6) (s6_ca u6) (s6_Fs u6) (s6_Ft u6) (s6_hi u6) (s6_hm u6) (s6_t u6) (s6_dd u6) (s6_ink u6) (s6_mn u6) p1 (by first | assumption | omega) (by first | assumption | omega) (by first | assumption | omega) (by first | assumption | omega) (by first | assumption | omega)) [0, 20, 26, 27, 36, 37, 38] rfl rfl rfl rfl), Ct.perm hp8.symm (Ct.frI (c_X8_bar_n l E k (s8_th u8) (s8_tr8 u8) (s8_wh u8) (s8_rr u8) (s8_q u8) (upN (upN (upN (upN (s8_z u8) 6 (s6_fd u6)) 12 (s6_fl u6)) 19 (s6_ac u6)) 20 (s6_im u6)) (s8_nb u8) (s8_wa u8) (s8_wd u8) (s8_ev u8) (s8_al u8) (s8_wl u8) p1 ) [0] rfl rfl rfl rfl), fun r w h => ⟨_, h.2⟩, ?_⟩
    rintro r w r' w' ⟨rfl, rfl⟩ ⟨rfl, rfl⟩
    exact ⟨congrArg (fun z => some (Value.int z)) (if_neg (okM_0 hy3)), Or.inl ⟨(((s6_g u6), (s6_xa u6), (s6_ra u6), (s6_caz u6), (s6_ca u6), (s6_pq u6), (s6_fl u6), (if okM p1 ((s6_cy u6) 3) then 0 else 1)), g6_1 u6, g6_2 u6, g6_3 u6, g6_4 u6, g6_5 u6, g6_6 u6, g6_7 u6, g6_8 u6, g6_9 u6, g6_10 u6), (((s8_q u8), 0, 1, (-1), (s8_rr u8), (s8_z u8), (s8_nb u8), (s8_wa u8)), g8_1 u8, g8_2 u8, g8_3 u8, g8_4 u8), List.Perm.refl _, List.Perm.refl _, hF, hN, tw_of 1 ((if_neg (okM_0 hy3)).symm) (by decide) (by decide)⟩⟩
  · obtain ⟨u6, u8, hp6, hp8, hF, hG, hP, hW⟩ := hv
    have hfd := hF.1
    have hby := hF.2.1
    have hkw := hF.2.2.1
    have h40z := hF.2.2.2.1
    have h40 := hF.2.2.2.2.1
    have hink2 := hF.2.2.2.2.2.1
    have hwt := hF.2.2.2.2.2.2.1
    have hdy := hF.2.2.2.2.2.2.2.1
    have hds := hF.2.2.2.2.2.2.2.2.1
    have hink := hF.2.2.2.2.2.2.2.2.2.1
    have ht := hF.2.2.2.2.2.2.2.2.2.2.1
    have ho := hF.2.2.2.2.2.2.2.2.2.2.2.1
    have hac := hF.2.2.2.2.2.2.2.2.2.2.2.2.1
    have him := hF.2.2.2.2.2.2.2.2.2.2.2.2.2.1
    have hc0 := hF.2.2.2.2.2.2.2.2.2.2.2.2.2.2.1
    have hc1 := hF.2.2.2.2.2.2.2.2.2.2.2.2.2.2.2.1
    have hc2 := hF.2.2.2.2.2.2.2.2.2.2.2.2.2.2.2.2.1
    have hc3 := hF.2.2.2.2.2.2.2.2.2.2.2.2.2.2.2.2.2.1
    have hc4 := hF.2.2.2.2.2.2.2.2.2.2.2.2.2.2.2.2.2.2.1
    have hc5 := hF.2.2.2.2.2.2.2.2.2.2.2.2.2.2.2.2.2.2.2.1
    have hc6 := hF.2.2.2.2.2.2.2.2.2.2.2.2.2.2.2.2.2.2.2.2.1
    have hc7 := hF.2.2.2.2.2.2.2.2.2.2.2.2.2.2.2.2.2.2.2.2.2
    have htr := hW.1
    have htl := hW.2.1
    have hgb := g8_b hc4 hc5 hc7 hG
    have hfo := hgb.1
    have hon := hgb.2.1
    have htw := hgb.2.2.1
    have hFs := hgb.2.2.2.1
    have hFt := hgb.2.2.2.2.1
    have hik := hgb.2.2.2.2.2.1
    have hun := hgb.2.2.2.2.2.2.1
    have hdi := hgb.2.2.2.2.2.2.2.1
    have hd2 := hgb.2.2.2.2.2.2.2.2.1
    have hd3 := hgb.2.2.2.2.2.2.2.2.2.1
    have hkp := hgb.2.2.2.2.2.2.2.2.2.2.1
    have hm1 := hgb.2.2.2.2.2.2.2.2.2.2.2.1
    have hal_ := hgb.2.2.2.2.2.2.2.2.2.2.2.2
    have hal := hal_ (s6_t u6)
    have hz : ∀ c, (s6_cy u6) 5 ≤ c → (s6_ink u6) c = 0 := hP.1.2.1
    have hmz : ∀ c, (s6_cy u6) 5 ≤ c → (s6_mn u6) c = -1 := hP.1.2.2.1
    have hdd9 : (s6_dd u6) ≤ 999 := hP.1.2.2.2.2
    have hw8 := w8_e hG
    have h30 : ¬ (s6_cy u6) 3 = 0 := by omega
    by_cases hok : okM p1 ((s6_cy u6) 3)
    · refine ⟨(wrI (W6 E x (((s6_g u6), (s6_xa u6), (s6_ra u6), (s6_caz u6), (s6_ca u6), (s6_pq u6), (s6_fl u6), (if okM p1 ((s6_cy u6) 3) then 0 else 1)), g6_1 u6, g6_2 u6, g6_3 u6, g6_4 u6, g6_5 u6, g6_6 u6, g6_7 u6, g6_8 u6, g6_9 u6, g6_10 u6)) (if okM p1 ((s6_cy u6) 3) then optI (bestO (fun p => decide (ndf p (bdN (s6_ink u6) (s6_mn u6) p1 0) = 0 ∧ kpN (s6_cy u6) (s6_Fs u6) (s6_Ft u6) (s6_t u6) p = 0)) (fun p qx => decide (pop8 p < pop8 qx)) (bdN (s6_ink u6) (s6_mn u6) p1 0 + 1)) else (-1))), (wrI (W8c E k (((s6_g u6), (s6_xa u6), (s6_ra u6), (s6_caz u6), (s6_ca u6), (s6_pq u6), (s6_fl u6), (if okM p1 ((s6_cy u6) 3) then 0 else 1)), g6_1 u6, g6_2 u6, g6_3 u6, g6_4 u6, g6_5 u6, g6_6 u6, g6_7 u6, g6_8 u6, g6_9 u6, g6_10 u6) (((s8_q u8), 0, 0, (-1), (s8_rr u8), (s8_z u8), (s8_nb u8), (s8_wa u8)), ((s8_wd u8), (allS ((s6_cy u6) 4)), (s8_al u8), (s8_wl u8), (xF (s6_mn u6) (s6_ink u6) (s6_t u6) (s6_dd u6)), (s8_pp u8), (s8_pj8 u8), (lyF (s6_Fs u6) (s6_Ft u6) (s6_t u6) ((s6_cy u6) 4) (s8_ke u8) ((s6_cy u6) 5))), g8_2 u8, g8_3 u8, g8_4 u8)) (optI (bestO (fun p => decide (ndf p (bdN (s6_ink u6) (s6_mn u6) p1 0) = 0 ∧ kpN (s6_cy u6) (s6_Fs u6) (s6_Ft u6) (s6_t u6) p = 0)) (fun p qx => decide (pop8 p < pop8 qx)) (bdN (s6_ink u6) (s6_mn u6) p1 0 + 1)))), Ct.perm hp6.symm (Ct.frI (c_X6_bar l E x (s6_xa u6) (s6_g u6) (s6_tr u6) (s6_fl u6) (s6_pl u6) (s6_cy u6) (s6_ca u6) (s6_Fs u6) (s6_Ft u6) (s6_hi u6) (s6_hm u6) (s6_t u6) (s6_dd u6) (s6_ink u6) (s6_mn u6) p1 (by first | assumption | omega) (by first | assumption | omega) (by first | assumption | omega) (by first | assumption | omega) (by first | assumption | omega)) [0, 20, 26, 27, 36, 37, 38] rfl rfl rfl rfl), Ct.perm hp8.symm (Ct.frI (c_X8_bar l E k (s8_th u8) (s8_tr8 u8) (s8_wh u8) (s8_g8 u8) (s8_rr u8) (s8_q u8) (upN (upN (upN (upN (s8_z u8) 6 (s6_fd u6)) 12 (s6_fl u6)) 19 (s6_ac u6)) 20 (s6_im u6)) (s8_nb u8) (s8_wa u8) (s8_wd u8) (s8_ev u8) (s8_al u8) (s8_wl u8) (s6_cy u6) (s8_kp u8) (s8_nc u8) (s8_cb u8) (s8_gf u8) (s8_go_ u8) (s8_gt_ u8) (s8_xf u8) (s6_mn u6) (s6_ink u6) (s6_t u6) (s6_dd u6) (s6_Fs u6) (s6_Ft u6) (s8_ke u8) p1 (by first | assumption | omega) (by first | assumption | omega) (by first | assumption | omega) (by first | assumption | omega) (by first | assumption | omega) (by first | assumption | omega) (by first | assumption | omega) (by first | assumption | omega) (by first | assumption | omega) (by first | assumption | omega)) [0, 10, 13, 14, 15, 2, 3, 6] rfl rfl rfl rfl), fun r w h => ⟨_, h.2⟩, ?_⟩
      rintro r w r' w' ⟨rfl, rfl⟩ ⟨rfl, rfl⟩
      exact ⟨congrArg (fun z => some (Value.int z)) (if_pos hok), Or.inr ⟨(((s6_g u6), (s6_xa u6), (s6_ra u6), (s6_caz u6), (s6_ca u6), (s6_pq u6), (s6_fl u6), (if okM p1 ((s6_cy u6) 3) then 0 else 1)), g6_1 u6, g6_2 u6, g6_3 u6, g6_4 u6, g6_5 u6, g6_6 u6, g6_7 u6, g6_8 u6, g6_9 u6, g6_10 u6), (((s8_q u8), 0, 0, (-1), (s8_rr u8), (s8_z u8), (s8_nb u8), (s8_wa u8)), ((s8_wd u8), (allS ((s6_cy u6) 4)), (s8_al u8), (s8_wl u8), (xF (s6_mn u6) (s6_ink u6) (s6_t u6) (s6_dd u6)), (s8_pp u8), (s8_pj8 u8), (lyF (s6_Fs u6) (s6_Ft u6) (s6_t u6) ((s6_cy u6) 4) (s8_ke u8) ((s6_cy u6) 5))), g8_2 u8, g8_3 u8, g8_4 u8), List.Perm.refl _, List.Perm.refl _, hF, hG, hP, tw_of 0 ((if_pos hok).symm) (by decide) (by decide)⟩⟩
    · refine ⟨(wrI (W6 E x (((s6_g u6), (s6_xa u6), (s6_ra u6), (s6_caz u6), (s6_ca u6), (s6_pq u6), (s6_fl u6), (if okM p1 ((s6_cy u6) 3) then 0 else 1)), g6_1 u6, g6_2 u6, g6_3 u6, g6_4 u6, g6_5 u6, g6_6 u6, g6_7 u6, g6_8 u6, g6_9 u6, g6_10 u6)) (if okM p1 ((s6_cy u6) 3) then optI (bestO (fun p => decide (ndf p (bdN (s6_ink u6) (s6_mn u6) p1 0) = 0 ∧ kpN (s6_cy u6) (s6_Fs u6) (s6_Ft u6) (s6_t u6) p = 0)) (fun p qx => decide (pop8 p < pop8 qx)) (bdN (s6_ink u6) (s6_mn u6) p1 0 + 1)) else (-1))), (wrI (W8c E k (((s6_g u6), (s6_xa u6), (s6_ra u6), (s6_caz u6), (s6_ca u6), (s6_pq u6), (s6_fl u6), (if okM p1 ((s6_cy u6) 3) then 0 else 1)), g6_1 u6, g6_2 u6, g6_3 u6, g6_4 u6, g6_5 u6, g6_6 u6, g6_7 u6, g6_8 u6, g6_9 u6, g6_10 u6) (((s8_q u8), 0, 1, (-1), (s8_rr u8), (s8_z u8), (s8_nb u8), (s8_wa u8)), g8_1 u8, g8_2 u8, g8_3 u8, g8_4 u8)) ((-1))), Ct.perm hp6.symm (Ct.frI (c_X6_bar l E x (s6_xa u6) (s6_g u6) (s6_tr u6) (s6_fl u6) (s6_pl u6) (s6_cy u6) (s6_ca u6) (s6_Fs u6) (s6_Ft u6) (s6_hi u6) (s6_hm u6) (s6_t u6) (s6_dd u6) (s6_ink u6) (s6_mn u6) p1 (by first | assumption | omega) (by first | assumption | omega) (by first | assumption | omega) (by first | assumption | omega) (by first | assumption | omega)) [0, 20, 26, 27, 36, 37, 38] rfl rfl rfl rfl), Ct.perm hp8.symm (Ct.frI (c_X8_bar_no l E k (s8_th u8) (s8_tr8 u8) (s8_wh u8) (s8_g8 u8) (s8_rr u8) (s8_q u8) (upN (upN (upN (upN (s8_z u8) 6 (s6_fd u6)) 12 (s6_fl u6)) 19 (s6_ac u6)) 20 (s6_im u6)) (s8_nb u8) (s8_wa u8) (s8_wd u8) (s8_ev u8) (s8_al u8) (s8_wl u8) (s6_cy u6) (s8_kp u8) (s8_nc u8) (s8_cb u8) p1 (by first | assumption | omega)) [0, 10] rfl rfl rfl rfl), fun r w h => ⟨_, h.2⟩, ?_⟩
      rintro r w r' w' ⟨rfl, rfl⟩ ⟨rfl, rfl⟩
      exact ⟨congrArg (fun z => some (Value.int z)) (if_neg hok), Or.inr ⟨(((s6_g u6), (s6_xa u6), (s6_ra u6), (s6_caz u6), (s6_ca u6), (s6_pq u6), (s6_fl u6), (if okM p1 ((s6_cy u6) 3) then 0 else 1)), g6_1 u6, g6_2 u6, g6_3 u6, g6_4 u6, g6_5 u6, g6_6 u6, g6_7 u6, g6_8 u6, g6_9 u6, g6_10 u6), (((s8_q u8), 0, 1, (-1), (s8_rr u8), (s8_z u8), (s8_nb u8), (s8_wa u8)), g8_1 u8, g8_2 u8, g8_3 u8, g8_4 u8), List.Perm.refl _, List.Perm.refl _, hF, hG, hP, tw_of 1 ((if_neg hok).symm) (by decide) (by decide)⟩⟩
set_option maxRecDepth 100000 in
set_option maxHeartbeats 4000000 in
theorem op_free (l : Launch) (E : Et) (x k : Nat) (p1 : Int32) : OpI E x k (fun w P => Ct l E yX6_free cX6_free 5 (some .int) 6 0 0 [.ref x, .int p1] w P) (fun w P => Ct l E yX8_free cX8_free 2 (some .int) 5 0 0 [.ref k, .int p1] w P) := by
  intro w6 w8 hv
  rcases hv with hv | hv
  · obtain ⟨u6, u8, hp6, hp8, hF, hN, hW⟩ := hv
    have hfd := hF.1
    have hby := hF.2.1
    have hkw := hF.2.2.1
    have h40z := hF.2.2.2.1
    have h40 := hF.2.2.2.2.1
    have hink2 := hF.2.2.2.2.2.1
    have hwt := hF.2.2.2.2.2.2.1
    have hdy := hF.2.2.2.2.2.2.2.1
    have hds := hF.2.2.2.2.2.2.2.2.1
    have hink := hF.2.2.2.2.2.2.2.2.2.1
    have ht := hF.2.2.2.2.2.2.2.2.2.2.1
    have ho := hF.2.2.2.2.2.2.2.2.2.2.2.1
    have hac := hF.2.2.2.2.2.2.2.2.2.2.2.2.1
    have him := hF.2.2.2.2.2.2.2.2.2.2.2.2.2.1
    have hc0 := hF.2.2.2.2.2.2.2.2.2.2.2.2.2.2.1
    have hc1 := hF.2.2.2.2.2.2.2.2.2.2.2.2.2.2.2.1
    have hc2 := hF.2.2.2.2.2.2.2.2.2.2.2.2.2.2.2.2.1
    have hc3 := hF.2.2.2.2.2.2.2.2.2.2.2.2.2.2.2.2.2.1
    have hc4 := hF.2.2.2.2.2.2.2.2.2.2.2.2.2.2.2.2.2.2.1
    have hc5 := hF.2.2.2.2.2.2.2.2.2.2.2.2.2.2.2.2.2.2.2.1
    have hc6 := hF.2.2.2.2.2.2.2.2.2.2.2.2.2.2.2.2.2.2.2.2.1
    have hc7 := hF.2.2.2.2.2.2.2.2.2.2.2.2.2.2.2.2.2.2.2.2.2
    have htr := hW.1
    have htl := hW.2.1
    have hy0 := hN.1
    have hy3 : (s6_cy u6) 3 = 0 := hy0 3 (by decide)
    have hy4 : (s6_cy u6) 4 = 0 := hy0 4 (by decide)
    have hy5 : (s6_cy u6) 5 = 0 := hy0 5 (by decide)
    have hy6 : (s6_cy u6) 6 = 0 := hy0 6 (by decide)
    refine ⟨(wrI (W6 E x (((s6_g u6), (s6_xa u6), (s6_ra u6), (s6_caz u6), (s6_ca u6), (s6_pq u6), (s6_fl u6), (if okM p1 ((s6_cy u6) 3) then 0 else 1)), g6_1 u6, g6_2 u6, g6_3 u6, g6_4 u6, g6_5 u6, g6_6 u6, g6_7 u6, g6_8 u6, g6_9 u6, g6_10 u6)) (if okM p1 ((s6_cy u6) 3) then nI (bestF (fun p => decide (ndf p (bdN (s6_ink u6) (s6_mn u6) p1 0) = 0 ∧ ¬ kpN (s6_cy u6) (s6_Fs u6) (s6_Ft u6) (s6_t u6) (ndf (bdN (s6_ink u6) (s6_mn u6) p1 0) p) = 0)) pop8 (bdN (s6_ink u6) (s6_mn u6) p1 0) (bdN (s6_ink u6) (s6_mn u6) p1 0 + 1)) else (-1))), (wrI (W8n E k (((s6_g u6), (s6_xa u6), (s6_ra u6), (s6_caz u6), (s6_ca u6), (s6_pq u6), (s6_fl u6), (if okM p1 ((s6_cy u6) 3) then 0 else 1)), g6_1 u6, g6_2 u6, g6_3 u6, g6_4 u6, g6_5 u6, g6_6 u6, g6_7 u6, g6_8 u6, g6_9 u6, g6_10 u6) (((s8_q u8), 0, 1, (-1), (s8_rr u8), (s8_z u8), (s8_nb u8), (s8_wa u8)), g8_1 u8, g8_2 u8, g8_3 u8, g8_4 u8)) ((-1))), Ct.perm hp6.symm (Ct.frI (c_X6_free l E x (s6_xa u6) (s6_g u6) (s6_tr u6) (s6_fl u6) (s6_pl u6) (s6_cy u6) (s6_ca u6) (s6_Fs u6) (s6_Ft u6) (s6_hi u6) (s6_hm u6) (s6_t u6) (s6_dd u6) (s6_ink u6) (s6_mn u6) p1 (by first | assumption | omega) (by first | assumption | omega) (by first | assumption | omega) (by first | assumption | omega) (by first | assumption | omega)) [0, 20, 26, 27, 36, 37, 38] rfl rfl rfl rfl), Ct.perm hp8.symm (Ct.frI (c_X8_free_n l E k (s8_th u8) (s8_tr8 u8) (s8_wh u8) (s8_rr u8) (s8_q u8) (upN (upN (upN (upN (s8_z u8) 6 (s6_fd u6)) 12 (s6_fl u6)) 19 (s6_ac u6)) 20 (s6_im u6)) (s8_nb u8) (s8_wa u8) (s8_wd u8) (s8_ev u8) (s8_al u8) (s8_wl u8) p1 ) [0] rfl rfl rfl rfl), fun r w h => ⟨_, h.2⟩, ?_⟩
    rintro r w r' w' ⟨rfl, rfl⟩ ⟨rfl, rfl⟩
    exact ⟨congrArg (fun z => some (Value.int z)) (if_neg (okM_0 hy3)), Or.inl ⟨(((s6_g u6), (s6_xa u6), (s6_ra u6), (s6_caz u6), (s6_ca u6), (s6_pq u6), (s6_fl u6), (if okM p1 ((s6_cy u6) 3) then 0 else 1)), g6_1 u6, g6_2 u6, g6_3 u6, g6_4 u6, g6_5 u6, g6_6 u6, g6_7 u6, g6_8 u6, g6_9 u6, g6_10 u6), (((s8_q u8), 0, 1, (-1), (s8_rr u8), (s8_z u8), (s8_nb u8), (s8_wa u8)), g8_1 u8, g8_2 u8, g8_3 u8, g8_4 u8), List.Perm.refl _, List.Perm.refl _, hF, hN, tw_of 1 ((if_neg (okM_0 hy3)).symm) (by decide) (by decide)⟩⟩
  · obtain ⟨u6, u8, hp6, hp8, hF, hG, hP, hW⟩ := hv
    have hfd := hF.1
    have hby := hF.2.1
    have hkw := hF.2.2.1
    have h40z := hF.2.2.2.1
    have h40 := hF.2.2.2.2.1
    have hink2 := hF.2.2.2.2.2.1
    have hwt := hF.2.2.2.2.2.2.1
    have hdy := hF.2.2.2.2.2.2.2.1
    have hds := hF.2.2.2.2.2.2.2.2.1
    have hink := hF.2.2.2.2.2.2.2.2.2.1
    have ht := hF.2.2.2.2.2.2.2.2.2.2.1
    have ho := hF.2.2.2.2.2.2.2.2.2.2.2.1
    have hac := hF.2.2.2.2.2.2.2.2.2.2.2.2.1
    have him := hF.2.2.2.2.2.2.2.2.2.2.2.2.2.1
    have hc0 := hF.2.2.2.2.2.2.2.2.2.2.2.2.2.2.1
    have hc1 := hF.2.2.2.2.2.2.2.2.2.2.2.2.2.2.2.1
    have hc2 := hF.2.2.2.2.2.2.2.2.2.2.2.2.2.2.2.2.1
    have hc3 := hF.2.2.2.2.2.2.2.2.2.2.2.2.2.2.2.2.2.1
    have hc4 := hF.2.2.2.2.2.2.2.2.2.2.2.2.2.2.2.2.2.2.1
    have hc5 := hF.2.2.2.2.2.2.2.2.2.2.2.2.2.2.2.2.2.2.2.1
    have hc6 := hF.2.2.2.2.2.2.2.2.2.2.2.2.2.2.2.2.2.2.2.2.1
    have hc7 := hF.2.2.2.2.2.2.2.2.2.2.2.2.2.2.2.2.2.2.2.2.2
    have htr := hW.1
    have htl := hW.2.1
    have hgb := g8_b hc4 hc5 hc7 hG
    have hfo := hgb.1
    have hon := hgb.2.1
    have htw := hgb.2.2.1
    have hFs := hgb.2.2.2.1
    have hFt := hgb.2.2.2.2.1
    have hik := hgb.2.2.2.2.2.1
    have hun := hgb.2.2.2.2.2.2.1
    have hdi := hgb.2.2.2.2.2.2.2.1
    have hd2 := hgb.2.2.2.2.2.2.2.2.1
    have hd3 := hgb.2.2.2.2.2.2.2.2.2.1
    have hkp := hgb.2.2.2.2.2.2.2.2.2.2.1
    have hm1 := hgb.2.2.2.2.2.2.2.2.2.2.2.1
    have hal_ := hgb.2.2.2.2.2.2.2.2.2.2.2.2
    have hal := hal_ (s6_t u6)
    have hz : ∀ c, (s6_cy u6) 5 ≤ c → (s6_ink u6) c = 0 := hP.1.2.1
    have hmz : ∀ c, (s6_cy u6) 5 ≤ c → (s6_mn u6) c = -1 := hP.1.2.2.1
    have hdd9 : (s6_dd u6) ≤ 999 := hP.1.2.2.2.2
    have hw8 := w8_e hG
    have h30 : ¬ (s6_cy u6) 3 = 0 := by omega
    by_cases hok : okM p1 ((s6_cy u6) 3)
    · refine ⟨(wrI (W6 E x (((s6_g u6), (s6_xa u6), (s6_ra u6), (s6_caz u6), (s6_ca u6), (s6_pq u6), (s6_fl u6), (if okM p1 ((s6_cy u6) 3) then 0 else 1)), g6_1 u6, g6_2 u6, g6_3 u6, g6_4 u6, g6_5 u6, g6_6 u6, g6_7 u6, g6_8 u6, g6_9 u6, g6_10 u6)) (if okM p1 ((s6_cy u6) 3) then nI (bestF (fun p => decide (ndf p (bdN (s6_ink u6) (s6_mn u6) p1 0) = 0 ∧ ¬ kpN (s6_cy u6) (s6_Fs u6) (s6_Ft u6) (s6_t u6) (ndf (bdN (s6_ink u6) (s6_mn u6) p1 0) p) = 0)) pop8 (bdN (s6_ink u6) (s6_mn u6) p1 0) (bdN (s6_ink u6) (s6_mn u6) p1 0 + 1)) else (-1))), (wrI (W8c E k (((s6_g u6), (s6_xa u6), (s6_ra u6), (s6_caz u6), (s6_ca u6), (s6_pq u6), (s6_fl u6), (if okM p1 ((s6_cy u6) 3) then 0 else 1)), g6_1 u6, g6_2 u6, g6_3 u6, g6_4 u6, g6_5 u6, g6_6 u6, g6_7 u6, g6_8 u6, g6_9 u6, g6_10 u6) (((s8_q u8), 0, 0, (-1), (s8_rr u8), (s8_z u8), (s8_nb u8), (s8_wa u8)), ((s8_wd u8), (allS ((s6_cy u6) 4)), (s8_al u8), (s8_wl u8), (xF (s6_mn u6) (s6_ink u6) (s6_t u6) (s6_dd u6)), (s8_pp u8), (s8_pj8 u8), (lyF (s6_Fs u6) (s6_Ft u6) (s6_t u6) ((s6_cy u6) 4) (s8_ke u8) ((s6_cy u6) 5))), g8_2 u8, g8_3 u8, g8_4 u8)) (nI (bestF (fun p => decide (ndf p (bdN (s6_ink u6) (s6_mn u6) p1 0) = 0 ∧ ¬ kpN (s6_cy u6) (s6_Fs u6) (s6_Ft u6) (s6_t u6) (ndf (bdN (s6_ink u6) (s6_mn u6) p1 0) p) = 0)) pop8 (bdN (s6_ink u6) (s6_mn u6) p1 0) (bdN (s6_ink u6) (s6_mn u6) p1 0 + 1)))), Ct.perm hp6.symm (Ct.frI (c_X6_free l E x (s6_xa u6) (s6_g u6) (s6_tr u6) (s6_fl u6) (s6_pl u6) (s6_cy u6) (s6_ca u6) (s6_Fs u6) (s6_Ft u6) (s6_hi u6) (s6_hm u6) (s6_t u6) (s6_dd u6) (s6_ink u6) (s6_mn u6) p1 (by first | assumption | omega) (by first | assumption | omega) (by first | assumption | omega) (by first | assumption | omega) (by first | assumption | omega)) [0, 20, 26, 27, 36, 37, 38] rfl rfl rfl rfl), Ct.perm hp8.symm (Ct.frI (c_X8_free l E k (s8_th u8) (s8_tr8 u8) (s8_wh u8) (s8_g8 u8) (s8_rr u8) (s8_q u8) (upN (upN (upN (upN (s8_z u8) 6 (s6_fd u6)) 12 (s6_fl u6)) 19 (s6_ac u6)) 20 (s6_im u6)) (s8_nb u8) (s8_wa u8) (s8_wd u8) (s8_ev u8) (s8_al u8) (s8_wl u8) (s6_cy u6) (s8_kp u8) (s8_nc u8) (s8_cb u8) (s8_gf u8) (s8_go_ u8) (s8_gt_ u8) (s8_xf u8) (s6_mn u6) (s6_ink u6) (s6_t u6) (s6_dd u6) (s6_Fs u6) (s6_Ft u6) (s8_ke u8) p1 (by first | assumption | omega) (by first | assumption | omega) (by first | assumption | omega) (by first | assumption | omega) (by first | assumption | omega) (by first | assumption | omega) (by first | assumption | omega) (by first | assumption | omega) (by first | assumption | omega) (by first | assumption | omega)) [0, 10, 13, 14, 15, 2, 3, 6] rfl rfl rfl rfl), fun r w h => ⟨_, h.2⟩, ?_⟩
      rintro r w r' w' ⟨rfl, rfl⟩ ⟨rfl, rfl⟩
      exact ⟨congrArg (fun z => some (Value.int z)) (if_pos hok), Or.inr ⟨(((s6_g u6), (s6_xa u6), (s6_ra u6), (s6_caz u6), (s6_ca u6), (s6_pq u6), (s6_fl u6), (if okM p1 ((s6_cy u6) 3) then 0 else 1)), g6_1 u6, g6_2 u6, g6_3 u6, g6_4 u6, g6_5 u6, g6_6 u6, g6_7 u6, g6_8 u6, g6_9 u6, g6_10 u6), (((s8_q u8), 0, 0, (-1), (s8_rr u8), (s8_z u8), (s8_nb u8), (s8_wa u8)), ((s8_wd u8), (allS ((s6_cy u6) 4)), (s8_al u8), (s8_wl u8), (xF (s6_mn u6) (s6_ink u6) (s6_t u6) (s6_dd u6)), (s8_pp u8), (s8_pj8 u8), (lyF (s6_Fs u6) (s6_Ft u6) (s6_t u6) ((s6_cy u6) 4) (s8_ke u8) ((s6_cy u6) 5))), g8_2 u8, g8_3 u8, g8_4 u8), List.Perm.refl _, List.Perm.refl _, hF, hG, hP, tw_of 0 ((if_pos hok).symm) (by decide) (by decide)⟩⟩
    · refine ⟨(wrI (W6 E x (((s6_g u6), (s6_xa u6), (s6_ra u6), (s6_caz u6), (s6_ca u6), (s6_pq u6), (s6_fl u6), (if okM p1 ((s6_cy u6) 3) then 0 else 1)), g6_1 u6, g6_2 u6, g6_3 u6, g6_4 u6, g6_5 u6, g6_6 u6, g6_7 u6, g6_8 u6, g6_9 u6, g6_10 u6)) (if okM p1 ((s6_cy u6) 3) then nI (bestF (fun p => decide (ndf p (bdN (s6_ink u6) (s6_mn u6) p1 0) = 0 ∧ ¬ kpN (s6_cy u6) (s6_Fs u6) (s6_Ft u6) (s6_t u6) (ndf (bdN (s6_ink u6) (s6_mn u6) p1 0) p) = 0)) pop8 (bdN (s6_ink u6) (s6_mn u6) p1 0) (bdN (s6_ink u6) (s6_mn u6) p1 0 + 1)) else (-1))), (wrI (W8c E k (((s6_g u6), (s6_xa u6), (s6_ra u6), (s6_caz u6), (s6_ca u6), (s6_pq u6), (s6_fl u6), (if okM p1 ((s6_cy u6) 3) then 0 else 1)), g6_1 u6, g6_2 u6, g6_3 u6, g6_4 u6, g6_5 u6, g6_6 u6, g6_7 u6, g6_8 u6, g6_9 u6, g6_10 u6) (((s8_q u8), 0, 1, (-1), (s8_rr u8), (s8_z u8), (s8_nb u8), (s8_wa u8)), g8_1 u8, g8_2 u8, g8_3 u8, g8_4 u8)) ((-1))), Ct.perm hp6.symm (Ct.frI (c_X6_free l E x (s6_xa u6) (s6_g u6) (s6_tr u6) (s6_fl u6) (s6_pl u6) (s6_cy u6) (s6_ca u6) (s6_Fs u6) (s6_Ft u6) (s6_hi u6) (s6_hm u6) (s6_t u6) (s6_dd u6) (s6_ink u6) (s6_mn u6) p1 (by first | assumption | omega) (by first | assumption | omega) (by first | assumption | omega) (by first | assumption | omega) (by first | assumption | omega)) [0, 20, 26, 27, 36, 37, 38] rfl rfl rfl rfl), Ct.perm hp8.symm (Ct.frI (c_X8_free_no l E k (s8_th u8) (s8_tr8 u8) (s8_wh u8) (s8_g8 u8) (s8_rr u8) (s8_q u8) (upN (upN (upN (upN (s8_z u8) 6 (s6_fd u6)) 12 (s6_fl u6)) 19 (s6_ac u6)) 20 (s6_im u6)) (s8_nb u8) (s8_wa u8) (s8_wd u8) (s8_ev u8) (s8_al u8) (s8_wl u8) (s6_cy u6) (s8_kp u8) (s8_nc u8) (s8_cb u8) p1 (by first | assumption | omega)) [0, 10] rfl rfl rfl rfl), fun r w h => ⟨_, h.2⟩, ?_⟩
      rintro r w r' w' ⟨rfl, rfl⟩ ⟨rfl, rfl⟩
      exact ⟨congrArg (fun z => some (Value.int z)) (if_neg hok), Or.inr ⟨(((s6_g u6), (s6_xa u6), (s6_ra u6), (s6_caz u6), (s6_ca u6), (s6_pq u6), (s6_fl u6), (if okM p1 ((s6_cy u6) 3) then 0 else 1)), g6_1 u6, g6_2 u6, g6_3 u6, g6_4 u6, g6_5 u6, g6_6 u6, g6_7 u6, g6_8 u6, g6_9 u6, g6_10 u6), (((s8_q u8), 0, 1, (-1), (s8_rr u8), (s8_z u8), (s8_nb u8), (s8_wa u8)), g8_1 u8, g8_2 u8, g8_3 u8, g8_4 u8), List.Perm.refl _, List.Perm.refl _, hF, hG, hP, tw_of 1 ((if_neg hok).symm) (by decide) (by decide)⟩⟩
set_option maxRecDepth 100000 in
set_option maxHeartbeats 4000000 in
theorem op_cheap (l : Launch) (E : Et) (x k : Nat) (p1 : Int32) : OpI E x k (fun w P => Ct l E yX6_cheap cX6_cheap 2 (some .int) 6 0 0 [.ref x, .int p1] w P) (fun w P => Ct l E yX8_cheap cX8_cheap 2 (some .int) 5 0 0 [.ref k, .int p1] w P) := by
  intro w6 w8 hv
  rcases hv with hv | hv
  · obtain ⟨u6, u8, hp6, hp8, hF, hN, hW⟩ := hv
    have hfd := hF.1
    have hby := hF.2.1
    have hkw := hF.2.2.1
    have h40z := hF.2.2.2.1
    have h40 := hF.2.2.2.2.1
    have hink2 := hF.2.2.2.2.2.1
    have hwt := hF.2.2.2.2.2.2.1
    have hdy := hF.2.2.2.2.2.2.2.1
    have hds := hF.2.2.2.2.2.2.2.2.1
    have hink := hF.2.2.2.2.2.2.2.2.2.1
    have ht := hF.2.2.2.2.2.2.2.2.2.2.1
    have ho := hF.2.2.2.2.2.2.2.2.2.2.2.1
    have hac := hF.2.2.2.2.2.2.2.2.2.2.2.2.1
    have him := hF.2.2.2.2.2.2.2.2.2.2.2.2.2.1
    have hc0 := hF.2.2.2.2.2.2.2.2.2.2.2.2.2.2.1
    have hc1 := hF.2.2.2.2.2.2.2.2.2.2.2.2.2.2.2.1
    have hc2 := hF.2.2.2.2.2.2.2.2.2.2.2.2.2.2.2.2.1
    have hc3 := hF.2.2.2.2.2.2.2.2.2.2.2.2.2.2.2.2.2.1
    have hc4 := hF.2.2.2.2.2.2.2.2.2.2.2.2.2.2.2.2.2.2.1
    have hc5 := hF.2.2.2.2.2.2.2.2.2.2.2.2.2.2.2.2.2.2.2.1
    have hc6 := hF.2.2.2.2.2.2.2.2.2.2.2.2.2.2.2.2.2.2.2.2.1
    have hc7 := hF.2.2.2.2.2.2.2.2.2.2.2.2.2.2.2.2.2.2.2.2.2
    have htr := hW.1
    have htl := hW.2.1
    have hy0 := hN.1
    have hy3 : (s6_cy u6) 3 = 0 := hy0 3 (by decide)
    have hy4 : (s6_cy u6) 4 = 0 := hy0 4 (by decide)
    have hy5 : (s6_cy u6) 5 = 0 := hy0 5 (by decide)
    have hy6 : (s6_cy u6) 6 = 0 := hy0 6 (by decide)
    refine ⟨(wrI (W6 E x (((s6_g u6), (s6_xa u6), (s6_ra u6), (s6_caz u6), (s6_ca u6), (s6_pq u6), (s6_fl u6), (if okM p1 ((s6_cy u6) 3) then 0 else 1)), g6_1 u6, g6_2 u6, g6_3 u6, g6_4 u6, g6_5 u6, g6_6 u6, g6_7 u6, g6_8 u6, g6_9 u6, g6_10 u6)) (if okM p1 ((s6_cy u6) 3) then nI (bestF (fun p => decide (ndf p (bdN (s6_ink u6) (s6_mn u6) p1 0) = 0 ∧ ¬ kpN (s6_cy u6) (s6_Fs u6) (s6_Ft u6) (s6_t u6) (ndf (bdN (s6_ink u6) (s6_mn u6) p1 0) p) = 0)) (inkS (s6_ink u6)) (bdN (s6_ink u6) (s6_mn u6) p1 0) (bdN (s6_ink u6) (s6_mn u6) p1 0 + 1)) else (-1))), (wrI (W8n E k (((s6_g u6), (s6_xa u6), (s6_ra u6), (s6_caz u6), (s6_ca u6), (s6_pq u6), (s6_fl u6), (if okM p1 ((s6_cy u6) 3) then 0 else 1)), g6_1 u6, g6_2 u6, g6_3 u6, g6_4 u6, g6_5 u6, g6_6 u6, g6_7 u6, g6_8 u6, g6_9 u6, g6_10 u6) (((s8_q u8), 0, 1, (-1), (s8_rr u8), (s8_z u8), (s8_nb u8), (s8_wa u8)), g8_1 u8, g8_2 u8, g8_3 u8, g8_4 u8)) ((-1))), Ct.perm hp6.symm (Ct.frI (c_X6_cheap l E x (s6_xa u6) (s6_g u6) (s6_tr u6) (s6_fl u6) (s6_pl u6) (s6_cy u6) (s6_ca u6) (s6_Fs u6) (s6_Ft u6) (s6_hi u6) (s6_hm u6) (s6_t u6) (s6_dd u6) (s6_ink u6) (s6_mn u6) p1 (by first | assumption | omega) (by first | assumption | omega) (by first | assumption | omega) (by first | assumption | omega) (by first | assumption | omega)) [0, 20, 26, 27, 36, 37, 38] rfl rfl rfl rfl), Ct.perm hp8.symm (Ct.frI (c_X8_cheap_n l E k (s8_th u8) (s8_tr8 u8) (s8_wh u8) (s8_rr u8) (s8_q u8) (upN (upN (upN (upN (s8_z u8) 6 (s6_fd u6)) 12 (s6_fl u6)) 19 (s6_ac u6)) 20 (s6_im u6)) (s8_nb u8) (s8_wa u8) (s8_wd u8) (s8_ev u8) (s8_al u8) (s8_wl u8) p1 ) [0] rfl rfl rfl rfl), fun r w h => ⟨_, h.2⟩, ?_⟩
    rintro r w r' w' ⟨rfl, rfl⟩ ⟨rfl, rfl⟩
    exact ⟨congrArg (fun z => some (Value.int z)) (if_neg (okM_0 hy3)), Or.inl ⟨(((s6_g u6), (s6_xa u6), (s6_ra u6), (s6_caz u6), (s6_ca u6), (s6_pq u6), (s6_fl u6), (if okM p1 ((s6_cy u6) 3) then 0 else 1)), g6_1 u6, g6_2 u6, g6_3 u6, g6_4 u6, g6_5 u6, g6_6 u6, g6_7 u6, g6_8 u6, g6_9 u6, g6_10 u6), (((s8_q u8), 0, 1, (-1), (s8_rr u8), (s8_z u8), (s8_nb u8), (s8_wa u8)), g8_1 u8, g8_2 u8, g8_3 u8, g8_4 u8), List.Perm.refl _, List.Perm.refl _, hF, hN, tw_of 1 ((if_neg (okM_0 hy3)).symm) (by decide) (by decide)⟩⟩
  · obtain ⟨u6, u8, hp6, hp8, hF, hG, hP, hW⟩ := hv
    have hfd := hF.1
    have hby := hF.2.1
    have hkw := hF.2.2.1
    have h40z := hF.2.2.2.1
    have h40 := hF.2.2.2.2.1
    have hink2 := hF.2.2.2.2.2.1
    have hwt := hF.2.2.2.2.2.2.1
    have hdy := hF.2.2.2.2.2.2.2.1
    have hds := hF.2.2.2.2.2.2.2.2.1
    have hink := hF.2.2.2.2.2.2.2.2.2.1
    have ht := hF.2.2.2.2.2.2.2.2.2.2.1
    have ho := hF.2.2.2.2.2.2.2.2.2.2.2.1
    have hac := hF.2.2.2.2.2.2.2.2.2.2.2.2.1
    have him := hF.2.2.2.2.2.2.2.2.2.2.2.2.2.1
    have hc0 := hF.2.2.2.2.2.2.2.2.2.2.2.2.2.2.1
    have hc1 := hF.2.2.2.2.2.2.2.2.2.2.2.2.2.2.2.1
    have hc2 := hF.2.2.2.2.2.2.2.2.2.2.2.2.2.2.2.2.1
    have hc3 := hF.2.2.2.2.2.2.2.2.2.2.2.2.2.2.2.2.2.1
    have hc4 := hF.2.2.2.2.2.2.2.2.2.2.2.2.2.2.2.2.2.2.1
    have hc5 := hF.2.2.2.2.2.2.2.2.2.2.2.2.2.2.2.2.2.2.2.1
    have hc6 := hF.2.2.2.2.2.2.2.2.2.2.2.2.2.2.2.2.2.2.2.2.1
    have hc7 := hF.2.2.2.2.2.2.2.2.2.2.2.2.2.2.2.2.2.2.2.2.2
    have htr := hW.1
    have htl := hW.2.1
    have hgb := g8_b hc4 hc5 hc7 hG
    have hfo := hgb.1
    have hon := hgb.2.1
    have htw := hgb.2.2.1
    have hFs := hgb.2.2.2.1
    have hFt := hgb.2.2.2.2.1
    have hik := hgb.2.2.2.2.2.1
    have hun := hgb.2.2.2.2.2.2.1
    have hdi := hgb.2.2.2.2.2.2.2.1
    have hd2 := hgb.2.2.2.2.2.2.2.2.1
    have hd3 := hgb.2.2.2.2.2.2.2.2.2.1
    have hkp := hgb.2.2.2.2.2.2.2.2.2.2.1
    have hm1 := hgb.2.2.2.2.2.2.2.2.2.2.2.1
    have hal_ := hgb.2.2.2.2.2.2.2.2.2.2.2.2
    have hal := hal_ (s6_t u6)
    have hz : ∀ c, (s6_cy u6) 5 ≤ c → (s6_ink u6) c = 0 := hP.1.2.1
    have hmz : ∀ c, (s6_cy u6) 5 ≤ c → (s6_mn u6) c = -1 := hP.1.2.2.1
    have hdd9 : (s6_dd u6) ≤ 999 := hP.1.2.2.2.2
    have hw8 := w8_e hG
    have h30 : ¬ (s6_cy u6) 3 = 0 := by omega
    by_cases hok : okM p1 ((s6_cy u6) 3)
    · refine ⟨(wrI (W6 E x (((s6_g u6), (s6_xa u6), (s6_ra u6), (s6_caz u6), (s6_ca u6), (s6_pq u6), (s6_fl u6), (if okM p1 ((s6_cy u6) 3) then 0 else 1)), g6_1 u6, g6_2 u6, g6_3 u6, g6_4 u6, g6_5 u6, g6_6 u6, g6_7 u6, g6_8 u6, g6_9 u6, g6_10 u6)) (if okM p1 ((s6_cy u6) 3) then nI (bestF (fun p => decide (ndf p (bdN (s6_ink u6) (s6_mn u6) p1 0) = 0 ∧ ¬ kpN (s6_cy u6) (s6_Fs u6) (s6_Ft u6) (s6_t u6) (ndf (bdN (s6_ink u6) (s6_mn u6) p1 0) p) = 0)) (inkS (s6_ink u6)) (bdN (s6_ink u6) (s6_mn u6) p1 0) (bdN (s6_ink u6) (s6_mn u6) p1 0 + 1)) else (-1))), (wrI (W8c E k (((s6_g u6), (s6_xa u6), (s6_ra u6), (s6_caz u6), (s6_ca u6), (s6_pq u6), (s6_fl u6), (if okM p1 ((s6_cy u6) 3) then 0 else 1)), g6_1 u6, g6_2 u6, g6_3 u6, g6_4 u6, g6_5 u6, g6_6 u6, g6_7 u6, g6_8 u6, g6_9 u6, g6_10 u6) (((s8_q u8), 0, 0, (-1), (s8_rr u8), (s8_z u8), (s8_nb u8), (s8_wa u8)), ((s8_wd u8), (allS ((s6_cy u6) 4)), (s8_al u8), (s8_wl u8), (xF (s6_mn u6) (s6_ink u6) (s6_t u6) (s6_dd u6)), (s8_pp u8), (s8_pj8 u8), (lyF (s6_Fs u6) (s6_Ft u6) (s6_t u6) ((s6_cy u6) 4) (s8_ke u8) ((s6_cy u6) 5))), g8_2 u8, g8_3 u8, g8_4 u8)) (nI (bestF (fun p => decide (ndf p (bdN (s6_ink u6) (s6_mn u6) p1 0) = 0 ∧ ¬ kpN (s6_cy u6) (s6_Fs u6) (s6_Ft u6) (s6_t u6) (ndf (bdN (s6_ink u6) (s6_mn u6) p1 0) p) = 0)) (inkS (s6_ink u6)) (bdN (s6_ink u6) (s6_mn u6) p1 0) (bdN (s6_ink u6) (s6_mn u6) p1 0 + 1)))), Ct.perm hp6.symm (Ct.frI (c_X6_cheap l E x (s6_xa u6) (s6_g u6) (s6_tr u6) (s6_fl u6) (s6_pl u6) (s6_cy u6) (s6_ca u6) (s6_Fs u6) (s6_Ft u6) (s6_hi u6) (s6_hm u6) (s6_t u6) (s6_dd u6) (s6_ink u6) (s6_mn u6) p1 (by first | assumption | omega) (by first | assumption | omega) (by first | assumption | omega) (by first | assumption | omega) (by first | assumption | omega)) [0, 20, 26, 27, 36, 37, 38] rfl rfl rfl rfl), Ct.perm hp8.symm (Ct.frI (c_X8_cheap l E k (s8_th u8) (s8_tr8 u8) (s8_wh u8) (s8_g8 u8) (s8_rr u8) (s8_q u8) (upN (upN (upN (upN (s8_z u8) 6 (s6_fd u6)) 12 (s6_fl u6)) 19 (s6_ac u6)) 20 (s6_im u6)) (s8_nb u8) (s8_wa u8) (s8_wd u8) (s8_ev u8) (s8_al u8) (s8_wl u8) (s6_cy u6) (s8_kp u8) (s8_nc u8) (s8_cb u8) (s8_gf u8) (s8_go_ u8) (s8_gt_ u8) (s8_xf u8) (s6_mn u6) (s6_ink u6) (s6_t u6) (s6_dd u6) (s6_Fs u6) (s6_Ft u6) (s8_ke u8) p1 (by first | assumption | omega) (by first | assumption | omega) (by first | assumption | omega) (by first | assumption | omega) (by first | assumption | omega) (by first | assumption | omega) (by first | assumption | omega) (by first | assumption | omega) (by first | assumption | omega) (by first | assumption | omega)) [0, 10, 13, 14, 15, 2, 3, 6] rfl rfl rfl rfl), fun r w h => ⟨_, h.2⟩, ?_⟩
      rintro r w r' w' ⟨rfl, rfl⟩ ⟨rfl, rfl⟩
      exact ⟨congrArg (fun z => some (Value.int z)) (if_pos hok), Or.inr ⟨(((s6_g u6), (s6_xa u6), (s6_ra u6), (s6_caz u6), (s6_ca u6), (s6_pq u6), (s6_fl u6), (if okM p1 ((s6_cy u6) 3) then 0 else 1)), g6_1 u6, g6_2 u6, g6_3 u6, g6_4 u6, g6_5 u6, g6_6 u6, g6_7 u6, g6_8 u6, g6_9 u6, g6_10 u6), (((s8_q u8), 0, 0, (-1), (s8_rr u8), (s8_z u8), (s8_nb u8), (s8_wa u8)), ((s8_wd u8), (allS ((s6_cy u6) 4)), (s8_al u8), (s8_wl u8), (xF (s6_mn u6) (s6_ink u6) (s6_t u6) (s6_dd u6)), (s8_pp u8), (s8_pj8 u8), (lyF (s6_Fs u6) (s6_Ft u6) (s6_t u6) ((s6_cy u6) 4) (s8_ke u8) ((s6_cy u6) 5))), g8_2 u8, g8_3 u8, g8_4 u8), List.Perm.refl _, List.Perm.refl _, hF, hG, hP, tw_of 0 ((if_pos hok).symm) (by decide) (by decide)⟩⟩
    · refine ⟨(wrI (W6 E x (((s6_g u6), (s6_xa u6), (s6_ra u6), (s6_caz u6), (s6_ca u6), (s6_pq u6), (s6_fl u6), (if okM p1 ((s6_cy u6) 3) then 0 else 1)), g6_1 u6, g6_2 u6, g6_3 u6, g6_4 u6, g6_5 u6, g6_6 u6, g6_7 u6, g6_8 u6, g6_9 u6, g6_10 u6)) (if okM p1 ((s6_cy u6) 3) then nI (bestF (fun p => decide (ndf p (bdN (s6_ink u6) (s6_mn u6) p1 0) = 0 ∧ ¬ kpN (s6_cy u6) (s6_Fs u6) (s6_Ft u6) (s6_t u6) (ndf (bdN (s6_ink u6) (s6_mn u6) p1 0) p) = 0)) (inkS (s6_ink u6)) (bdN (s6_ink u6) (s6_mn u6) p1 0) (bdN (s6_ink u6) (s6_mn u6) p1 0 + 1)) else (-1))), (wrI (W8c E k (((s6_g u6), (s6_xa u6), (s6_ra u6), (s6_caz u6), (s6_ca u6), (s6_pq u6), (s6_fl u6), (if okM p1 ((s6_cy u6) 3) then 0 else 1)), g6_1 u6, g6_2 u6, g6_3 u6, g6_4 u6, g6_5 u6, g6_6 u6, g6_7 u6, g6_8 u6, g6_9 u6, g6_10 u6) (((s8_q u8), 0, 1, (-1), (s8_rr u8), (s8_z u8), (s8_nb u8), (s8_wa u8)), g8_1 u8, g8_2 u8, g8_3 u8, g8_4 u8)) ((-1))), Ct.perm hp6.symm (Ct.frI (c_X6_cheap l E x (s6_xa u6) (s6_g u6) (s6_tr u6) (s6_fl u6) (s6_pl u6) (s6_cy u6) (s6_ca u6) (s6_Fs u6) (s6_Ft u6) (s6_hi u6) (s6_hm u6) (s6_t u6) (s6_dd u6) (s6_ink u6) (s6_mn u6) p1 (by first | assumption | omega) (by first | assumption | omega) (by first | assumption | omega) (by first | assumption | omega) (by first | assumption | omega)) [0, 20, 26, 27, 36, 37, 38] rfl rfl rfl rfl), Ct.perm hp8.symm (Ct.frI (c_X8_cheap_no l E k (s8_th u8) (s8_tr8 u8) (s8_wh u8) (s8_g8 u8) (s8_rr u8) (s8_q u8) (upN (upN (upN (upN (s8_z u8) 6 (s6_fd u6)) 12 (s6_fl u6)) 19 (s6_ac u6)) 20 (s6_im u6)) (s8_nb u8) (s8_wa u8) (s8_wd u8) (s8_ev u8) (s8_al u8) (s8_wl u8) (s6_cy u6) (s8_kp u8) (s8_nc u8) (s8_cb u8) p1 (by first | assumption | omega)) [0, 10] rfl rfl rfl rfl), fun r w h => ⟨_, h.2⟩, ?_⟩
      rintro r w r' w' ⟨rfl, rfl⟩ ⟨rfl, rfl⟩
      exact ⟨congrArg (fun z => some (Value.int z)) (if_neg hok), Or.inr ⟨(((s6_g u6), (s6_xa u6), (s6_ra u6), (s6_caz u6), (s6_ca u6), (s6_pq u6), (s6_fl u6), (if okM p1 ((s6_cy u6) 3) then 0 else 1)), g6_1 u6, g6_2 u6, g6_3 u6, g6_4 u6, g6_5 u6, g6_6 u6, g6_7 u6, g6_8 u6, g6_9 u6, g6_10 u6), (((s8_q u8), 0, 1, (-1), (s8_rr u8), (s8_z u8), (s8_nb u8), (s8_wa u8)), g8_1 u8, g8_2 u8, g8_3 u8, g8_4 u8), List.Perm.refl _, List.Perm.refl _, hF, hG, hP, tw_of 1 ((if_neg hok).symm) (by decide) (by decide)⟩⟩
set_option maxRecDepth 100000 in
set_option maxHeartbeats 4000000 in
theorem op_price (l : Launch) (E : Et) (x k : Nat) (p1 : Int32) : OpI E x k (fun w P => Ct l E yX6_price cX6_price 2 (some .int) 6 0 0 [.ref x, .int p1] w P) (fun w P => Ct l E yX8_price cX8_price 2 (some .int) 5 0 0 [.ref k, .int p1] w P) := by
  intro w6 w8 hv
  rcases hv with hv | hv
  · obtain ⟨u6, u8, hp6, hp8, hF, hN, hW⟩ := hv
    have hfd := hF.1
    have hby := hF.2.1
    have hkw := hF.2.2.1
    have h40z := hF.2.2.2.1
    have h40 := hF.2.2.2.2.1
    have hink2 := hF.2.2.2.2.2.1
    have hwt := hF.2.2.2.2.2.2.1
    have hdy := hF.2.2.2.2.2.2.2.1
    have hds := hF.2.2.2.2.2.2.2.2.1
    have hink := hF.2.2.2.2.2.2.2.2.2.1
    have ht := hF.2.2.2.2.2.2.2.2.2.2.1
    have ho := hF.2.2.2.2.2.2.2.2.2.2.2.1
    have hac := hF.2.2.2.2.2.2.2.2.2.2.2.2.1
    have him := hF.2.2.2.2.2.2.2.2.2.2.2.2.2.1
    have hc0 := hF.2.2.2.2.2.2.2.2.2.2.2.2.2.2.1
    have hc1 := hF.2.2.2.2.2.2.2.2.2.2.2.2.2.2.2.1
    have hc2 := hF.2.2.2.2.2.2.2.2.2.2.2.2.2.2.2.2.1
    have hc3 := hF.2.2.2.2.2.2.2.2.2.2.2.2.2.2.2.2.2.1
    have hc4 := hF.2.2.2.2.2.2.2.2.2.2.2.2.2.2.2.2.2.2.1
    have hc5 := hF.2.2.2.2.2.2.2.2.2.2.2.2.2.2.2.2.2.2.2.1
    have hc6 := hF.2.2.2.2.2.2.2.2.2.2.2.2.2.2.2.2.2.2.2.2.1
    have hc7 := hF.2.2.2.2.2.2.2.2.2.2.2.2.2.2.2.2.2.2.2.2.2
    have htr := hW.1
    have htl := hW.2.1
    have hy0 := hN.1
    have hy3 : (s6_cy u6) 3 = 0 := hy0 3 (by decide)
    have hy4 : (s6_cy u6) 4 = 0 := hy0 4 (by decide)
    have hy5 : (s6_cy u6) 5 = 0 := hy0 5 (by decide)
    have hy6 : (s6_cy u6) 6 = 0 := hy0 6 (by decide)
    refine ⟨(wrI (W6 E x (((s6_g u6), (s6_xa u6), (s6_ra u6), (s6_caz u6), (s6_ca u6), (s6_pq u6), (s6_fl u6), (if okM p1 ((s6_cy u6) 3) then 0 else 1)), g6_1 u6, g6_2 u6, g6_3 u6, g6_4 u6, g6_5 u6, g6_6 u6, g6_7 u6, g6_8 u6, g6_9 u6, g6_10 u6)) (if okM p1 ((s6_cy u6) 3) then nI (inkS (s6_ink u6) (bestF (fun p => decide (ndf p (bdN (s6_ink u6) (s6_mn u6) p1 0) = 0 ∧ ¬ kpN (s6_cy u6) (s6_Fs u6) (s6_Ft u6) (s6_t u6) (ndf (bdN (s6_ink u6) (s6_mn u6) p1 0) p) = 0)) (inkS (s6_ink u6)) (bdN (s6_ink u6) (s6_mn u6) p1 0) (bdN (s6_ink u6) (s6_mn u6) p1 0 + 1))) else (-1))), (wrI (W8n E k (((s6_g u6), (s6_xa u6), (s6_ra u6), (s6_caz u6), (s6_ca u6), (s6_pq u6), (s6_fl u6), (if okM p1 ((s6_cy u6) 3) then 0 else 1)), g6_1 u6, g6_2 u6, g6_3 u6, g6_4 u6, g6_5 u6, g6_6 u6, g6_7 u6, g6_8 u6, g6_9 u6, g6_10 u6) (((s8_q u8), 0, 1, (-1), (s8_rr u8), (s8_z u8), (s8_nb u8), (s8_wa u8)), g8_1 u8, g8_2 u8, g8_3 u8, g8_4 u8)) ((-1))), Ct.perm hp6.symm (Ct.frI (c_X6_price l E x (s6_xa u6) (s6_g u6) (s6_tr u6) (s6_fl u6) (s6_pl u6) (s6_cy u6) (s6_ca u6) (s6_Fs u6) (s6_Ft u6) (s6_hi u6) (s6_hm u6) (s6_t u6) (s6_dd u6) (s6_ink u6) (s6_mn u6) p1 (by first | assumption | omega) (by first | assumption | omega) (by first | assumption | omega) (by first | assumption | omega) (by first | assumption | omega)) [0, 20, 26, 27, 36, 37, 38] rfl rfl rfl rfl), Ct.perm hp8.symm (Ct.frI (c_X8_price_n l E k (s8_th u8) (s8_tr8 u8) (s8_wh u8) (s8_rr u8) (s8_q u8) (upN (upN (upN (upN (s8_z u8) 6 (s6_fd u6)) 12 (s6_fl u6)) 19 (s6_ac u6)) 20 (s6_im u6)) (s8_nb u8) (s8_wa u8) (s8_wd u8) (s8_ev u8) (s8_al u8) (s8_wl u8) p1 ) [0] rfl rfl rfl rfl), fun r w h => ⟨_, h.2⟩, ?_⟩
    rintro r w r' w' ⟨rfl, rfl⟩ ⟨rfl, rfl⟩
    exact ⟨congrArg (fun z => some (Value.int z)) (if_neg (okM_0 hy3)), Or.inl ⟨(((s6_g u6), (s6_xa u6), (s6_ra u6), (s6_caz u6), (s6_ca u6), (s6_pq u6), (s6_fl u6), (if okM p1 ((s6_cy u6) 3) then 0 else 1)), g6_1 u6, g6_2 u6, g6_3 u6, g6_4 u6, g6_5 u6, g6_6 u6, g6_7 u6, g6_8 u6, g6_9 u6, g6_10 u6), (((s8_q u8), 0, 1, (-1), (s8_rr u8), (s8_z u8), (s8_nb u8), (s8_wa u8)), g8_1 u8, g8_2 u8, g8_3 u8, g8_4 u8), List.Perm.refl _, List.Perm.refl _, hF, hN, tw_of 1 ((if_neg (okM_0 hy3)).symm) (by decide) (by decide)⟩⟩
  · obtain ⟨u6, u8, hp6, hp8, hF, hG, hP, hW⟩ := hv
    have hfd := hF.1
    have hby := hF.2.1
    have hkw := hF.2.2.1
    have h40z := hF.2.2.2.1
    have h40 := hF.2.2.2.2.1
    have hink2 := hF.2.2.2.2.2.1
    have hwt := hF.2.2.2.2.2.2.1
    have hdy := hF.2.2.2.2.2.2.2.1
    have hds := hF.2.2.2.2.2.2.2.2.1
    have hink := hF.2.2.2.2.2.2.2.2.2.1
    have ht := hF.2.2.2.2.2.2.2.2.2.2.1
    have ho := hF.2.2.2.2.2.2.2.2.2.2.2.1
    have hac := hF.2.2.2.2.2.2.2.2.2.2.2.2.1
    have him := hF.2.2.2.2.2.2.2.2.2.2.2.2.2.1
    have hc0 := hF.2.2.2.2.2.2.2.2.2.2.2.2.2.2.1
    have hc1 := hF.2.2.2.2.2.2.2.2.2.2.2.2.2.2.2.1
    have hc2 := hF.2.2.2.2.2.2.2.2.2.2.2.2.2.2.2.2.1
    have hc3 := hF.2.2.2.2.2.2.2.2.2.2.2.2.2.2.2.2.2.1
    have hc4 := hF.2.2.2.2.2.2.2.2.2.2.2.2.2.2.2.2.2.2.1
    have hc5 := hF.2.2.2.2.2.2.2.2.2.2.2.2.2.2.2.2.2.2.2.1
    have hc6 := hF.2.2.2.2.2.2.2.2.2.2.2.2.2.2.2.2.2.2.2.2.1
    have hc7 := hF.2.2.2.2.2.2.2.2.2.2.2.2.2.2.2.2.2.2.2.2.2
    have htr := hW.1
    have htl := hW.2.1
    have hgb := g8_b hc4 hc5 hc7 hG
    have hfo := hgb.1
    have hon := hgb.2.1
    have htw := hgb.2.2.1
    have hFs := hgb.2.2.2.1
    have hFt := hgb.2.2.2.2.1
    have hik := hgb.2.2.2.2.2.1
    have hun := hgb.2.2.2.2.2.2.1
    have hdi := hgb.2.2.2.2.2.2.2.1
    have hd2 := hgb.2.2.2.2.2.2.2.2.1
    have hd3 := hgb.2.2.2.2.2.2.2.2.2.1
    have hkp := hgb.2.2.2.2.2.2.2.2.2.2.1
    have hm1 := hgb.2.2.2.2.2.2.2.2.2.2.2.1
    have hal_ := hgb.2.2.2.2.2.2.2.2.2.2.2.2
    have hal := hal_ (s6_t u6)
    have hz : ∀ c, (s6_cy u6) 5 ≤ c → (s6_ink u6) c = 0 := hP.1.2.1
    have hmz : ∀ c, (s6_cy u6) 5 ≤ c → (s6_mn u6) c = -1 := hP.1.2.2.1
    have hdd9 : (s6_dd u6) ≤ 999 := hP.1.2.2.2.2
    have hw8 := w8_e hG
    have h30 : ¬ (s6_cy u6) 3 = 0 := by omega
    by_cases hok : okM p1 ((s6_cy u6) 3)
    · refine ⟨(wrI (W6 E x (((s6_g u6), (s6_xa u6), (s6_ra u6), (s6_caz u6), (s6_ca u6), (s6_pq u6), (s6_fl u6), (if okM p1 ((s6_cy u6) 3) then 0 else 1)), g6_1 u6, g6_2 u6, g6_3 u6, g6_4 u6, g6_5 u6, g6_6 u6, g6_7 u6, g6_8 u6, g6_9 u6, g6_10 u6)) (if okM p1 ((s6_cy u6) 3) then nI (inkS (s6_ink u6) (bestF (fun p => decide (ndf p (bdN (s6_ink u6) (s6_mn u6) p1 0) = 0 ∧ ¬ kpN (s6_cy u6) (s6_Fs u6) (s6_Ft u6) (s6_t u6) (ndf (bdN (s6_ink u6) (s6_mn u6) p1 0) p) = 0)) (inkS (s6_ink u6)) (bdN (s6_ink u6) (s6_mn u6) p1 0) (bdN (s6_ink u6) (s6_mn u6) p1 0 + 1))) else (-1))), (wrI (W8c E k (((s6_g u6), (s6_xa u6), (s6_ra u6), (s6_caz u6), (s6_ca u6), (s6_pq u6), (s6_fl u6), (if okM p1 ((s6_cy u6) 3) then 0 else 1)), g6_1 u6, g6_2 u6, g6_3 u6, g6_4 u6, g6_5 u6, g6_6 u6, g6_7 u6, g6_8 u6, g6_9 u6, g6_10 u6) (((s8_q u8), 0, 0, (-1), (s8_rr u8), (s8_z u8), (s8_nb u8), (s8_wa u8)), ((s8_wd u8), (allS ((s6_cy u6) 4)), (s8_al u8), (s8_wl u8), (xF (s6_mn u6) (s6_ink u6) (s6_t u6) (s6_dd u6)), (s8_pp u8), (s8_pj8 u8), (lyF (s6_Fs u6) (s6_Ft u6) (s6_t u6) ((s6_cy u6) 4) (s8_ke u8) ((s6_cy u6) 5))), g8_2 u8, g8_3 u8, g8_4 u8)) (nI (inkS (s6_ink u6) (bestF (fun p => decide (ndf p (bdN (s6_ink u6) (s6_mn u6) p1 0) = 0 ∧ ¬ kpN (s6_cy u6) (s6_Fs u6) (s6_Ft u6) (s6_t u6) (ndf (bdN (s6_ink u6) (s6_mn u6) p1 0) p) = 0)) (inkS (s6_ink u6)) (bdN (s6_ink u6) (s6_mn u6) p1 0) (bdN (s6_ink u6) (s6_mn u6) p1 0 + 1))))), Ct.perm hp6.symm (Ct.frI (c_X6_price l E x (s6_xa u6) (s6_g u6) (s6_tr u6) (s6_fl u6) (s6_pl u6) (s6_cy u6) (s6_ca u6) (s6_Fs u6) (s6_Ft u6) (s6_hi u6) (s6_hm u6) (s6_t u6) (s6_dd u6) (s6_ink u6) (s6_mn u6) p1 (by first | assumption | omega) (by first | assumption | omega) (by first | assumption | omega) (by first | assumption | omega) (by first | assumption | omega)) [0, 20, 26, 27, 36, 37, 38] rfl rfl rfl rfl), Ct.perm hp8.symm (Ct.frI (c_X8_price l E k (s8_th u8) (s8_tr8 u8) (s8_wh u8) (s8_g8 u8) (s8_rr u8) (s8_q u8) (upN (upN (upN (upN (s8_z u8) 6 (s6_fd u6)) 12 (s6_fl u6)) 19 (s6_ac u6)) 20 (s6_im u6)) (s8_nb u8) (s8_wa u8) (s8_wd u8) (s8_ev u8) (s8_al u8) (s8_wl u8) (s6_cy u6) (s8_kp u8) (s8_nc u8) (s8_cb u8) (s8_gf u8) (s8_go_ u8) (s8_gt_ u8) (s8_xf u8) (s6_mn u6) (s6_ink u6) (s6_t u6) (s6_dd u6) (s6_Fs u6) (s6_Ft u6) (s8_ke u8) p1 (by first | assumption | omega) (by first | assumption | omega) (by first | assumption | omega) (by first | assumption | omega) (by first | assumption | omega) (by first | assumption | omega) (by first | assumption | omega) (by first | assumption | omega) (by first | assumption | omega) (by first | assumption | omega)) [0, 10, 13, 14, 15, 2, 3, 6] rfl rfl rfl rfl), fun r w h => ⟨_, h.2⟩, ?_⟩
      rintro r w r' w' ⟨rfl, rfl⟩ ⟨rfl, rfl⟩
      exact ⟨congrArg (fun z => some (Value.int z)) (if_pos hok), Or.inr ⟨(((s6_g u6), (s6_xa u6), (s6_ra u6), (s6_caz u6), (s6_ca u6), (s6_pq u6), (s6_fl u6), (if okM p1 ((s6_cy u6) 3) then 0 else 1)), g6_1 u6, g6_2 u6, g6_3 u6, g6_4 u6, g6_5 u6, g6_6 u6, g6_7 u6, g6_8 u6, g6_9 u6, g6_10 u6), (((s8_q u8), 0, 0, (-1), (s8_rr u8), (s8_z u8), (s8_nb u8), (s8_wa u8)), ((s8_wd u8), (allS ((s6_cy u6) 4)), (s8_al u8), (s8_wl u8), (xF (s6_mn u6) (s6_ink u6) (s6_t u6) (s6_dd u6)), (s8_pp u8), (s8_pj8 u8), (lyF (s6_Fs u6) (s6_Ft u6) (s6_t u6) ((s6_cy u6) 4) (s8_ke u8) ((s6_cy u6) 5))), g8_2 u8, g8_3 u8, g8_4 u8), List.Perm.refl _, List.Perm.refl _, hF, hG, hP, tw_of 0 ((if_pos hok).symm) (by decide) (by decide)⟩⟩
    · refine ⟨(wrI (W6 E x (((s6_g u6), (s6_xa u6), (s6_ra u6), (s6_caz u6), (s6_ca u6), (s6_pq u6), (s6_fl u6), (if okM p1 ((s6_cy u6) 3) then 0 else 1)), g6_1 u6, g6_2 u6, g6_3 u6, g6_4 u6, g6_5 u6, g6_6 u6, g6_7 u6, g6_8 u6, g6_9 u6, g6_10 u6)) (if okM p1 ((s6_cy u6) 3) then nI (inkS (s6_ink u6) (bestF (fun p => decide (ndf p (bdN (s6_ink u6) (s6_mn u6) p1 0) = 0 ∧ ¬ kpN (s6_cy u6) (s6_Fs u6) (s6_Ft u6) (s6_t u6) (ndf (bdN (s6_ink u6) (s6_mn u6) p1 0) p) = 0)) (inkS (s6_ink u6)) (bdN (s6_ink u6) (s6_mn u6) p1 0) (bdN (s6_ink u6) (s6_mn u6) p1 0 + 1))) else (-1))), (wrI (W8c E k (((s6_g u6), (s6_xa u6), (s6_ra u6), (s6_caz u6), (s6_ca u6), (s6_pq u6), (s6_fl u6), (if okM p1 ((s6_cy u6) 3) then 0 else 1)), g6_1 u6, g6_2 u6, g6_3 u6, g6_4 u6, g6_5 u6, g6_6 u6, g6_7 u6, g6_8 u6, g6_9 u6, g6_10 u6) (((s8_q u8), 0, 1, (-1), (s8_rr u8), (s8_z u8), (s8_nb u8), (s8_wa u8)), g8_1 u8, g8_2 u8, g8_3 u8, g8_4 u8)) ((-1))), Ct.perm hp6.symm (Ct.frI (c_X6_price l E x (s6_xa u6) (s6_g u6) (s6_tr u6) (s6_fl u6) (s6_pl u6) (s6_cy u6) (s6_ca u6) (s6_Fs u6) (s6_Ft u6) (s6_hi u6) (s6_hm u6) (s6_t u6) (s6_dd u6) (s6_ink u6) (s6_mn u6) p1 (by first | assumption | omega) (by first | assumption | omega) (by first | assumption | omega) (by first | assumption | omega) (by first | assumption | omega)) [0, 20, 26, 27, 36, 37, 38] rfl rfl rfl rfl), Ct.perm hp8.symm (Ct.frI (c_X8_price_no l E k (s8_th u8) (s8_tr8 u8) (s8_wh u8) (s8_g8 u8) (s8_rr u8) (s8_q u8) (upN (upN (upN (upN (s8_z u8) 6 (s6_fd u6)) 12 (s6_fl u6)) 19 (s6_ac u6)) 20 (s6_im u6)) (s8_nb u8) (s8_wa u8) (s8_wd u8) (s8_ev u8) (s8_al u8) (s8_wl u8) (s6_cy u6) (s8_kp u8) (s8_nc u8) (s8_cb u8) p1 (by first | assumption | omega)) [0, 10] rfl rfl rfl rfl), fun r w h => ⟨_, h.2⟩, ?_⟩
      rintro r w r' w' ⟨rfl, rfl⟩ ⟨rfl, rfl⟩
      exact ⟨congrArg (fun z => some (Value.int z)) (if_neg hok), Or.inr ⟨(((s6_g u6), (s6_xa u6), (s6_ra u6), (s6_caz u6), (s6_ca u6), (s6_pq u6), (s6_fl u6), (if okM p1 ((s6_cy u6) 3) then 0 else 1)), g6_1 u6, g6_2 u6, g6_3 u6, g6_4 u6, g6_5 u6, g6_6 u6, g6_7 u6, g6_8 u6, g6_9 u6, g6_10 u6), (((s8_q u8), 0, 1, (-1), (s8_rr u8), (s8_z u8), (s8_nb u8), (s8_wa u8)), g8_1 u8, g8_2 u8, g8_3 u8, g8_4 u8), List.Perm.refl _, List.Perm.refl _, hF, hG, hP, tw_of 1 ((if_neg hok).symm) (by decide) (by decide)⟩⟩
set_option maxRecDepth 100000 in
set_option maxHeartbeats 4000000 in
theorem op_idle (l : Launch) (E : Et) (x k : Nat) (p1 : Int32) : OpI E x k (fun w P => Ct l E yX6_idle cX6_idle 7 (some .int) 6 0 0 [.ref x, .int p1] w P) (fun w P => Ct l E yX8_idle cX8_idle 5 (some .int) 5 0 0 [.ref k, .int p1] w P) := by
  intro w6 w8 hv
  rcases hv with hv | hv
  · obtain ⟨u6, u8, hp6, hp8, hF, hN, hW⟩ := hv
    have hfd := hF.1
    have hby := hF.2.1
    have hkw := hF.2.2.1
    have h40z := hF.2.2.2.1
    have h40 := hF.2.2.2.2.1
    have hink2 := hF.2.2.2.2.2.1
    have hwt := hF.2.2.2.2.2.2.1
    have hdy := hF.2.2.2.2.2.2.2.1
    have hds := hF.2.2.2.2.2.2.2.2.1
    have hink := hF.2.2.2.2.2.2.2.2.2.1
    have ht := hF.2.2.2.2.2.2.2.2.2.2.1
    have ho := hF.2.2.2.2.2.2.2.2.2.2.2.1
    have hac := hF.2.2.2.2.2.2.2.2.2.2.2.2.1
    have him := hF.2.2.2.2.2.2.2.2.2.2.2.2.2.1
    have hc0 := hF.2.2.2.2.2.2.2.2.2.2.2.2.2.2.1
    have hc1 := hF.2.2.2.2.2.2.2.2.2.2.2.2.2.2.2.1
    have hc2 := hF.2.2.2.2.2.2.2.2.2.2.2.2.2.2.2.2.1
    have hc3 := hF.2.2.2.2.2.2.2.2.2.2.2.2.2.2.2.2.2.1
    have hc4 := hF.2.2.2.2.2.2.2.2.2.2.2.2.2.2.2.2.2.2.1
    have hc5 := hF.2.2.2.2.2.2.2.2.2.2.2.2.2.2.2.2.2.2.2.1
    have hc6 := hF.2.2.2.2.2.2.2.2.2.2.2.2.2.2.2.2.2.2.2.2.1
    have hc7 := hF.2.2.2.2.2.2.2.2.2.2.2.2.2.2.2.2.2.2.2.2.2
    have htr := hW.1
    have htl := hW.2.1
    have hy0 := hN.1
    have hy3 : (s6_cy u6) 3 = 0 := hy0 3 (by decide)
    have hy4 : (s6_cy u6) 4 = 0 := hy0 4 (by decide)
    have hy5 : (s6_cy u6) 5 = 0 := hy0 5 (by decide)
    have hy6 : (s6_cy u6) 6 = 0 := hy0 6 (by decide)
    refine ⟨(wrI (W6 E x (((s6_g u6), (s6_xa u6), (s6_ra u6), (s6_caz u6), (s6_ca u6), (s6_pq u6), (s6_fl u6), (if okM p1 ((s6_cy u6) 3) then 0 else 1)), g6_1 u6, g6_2 u6, g6_3 u6, g6_4 u6, g6_5 u6, g6_6 u6, g6_7 u6, g6_8 u6, g6_9 u6, g6_10 u6)) (if okM p1 ((s6_cy u6) 3) then nI (bbits (fun c => decide ((bdN (s6_ink u6) (s6_mn u6) p1 0).testBit c = true ∧ kpN (s6_cy u6) (s6_Fs u6) (s6_Ft u6) (s6_t u6) (ndf (bdN (s6_ink u6) (s6_mn u6) p1 0) (2 ^ c)) = kpN (s6_cy u6) (s6_Fs u6) (s6_Ft u6) (s6_t u6) (bdN (s6_ink u6) (s6_mn u6) p1 0))) ((s6_cy u6) 5)) else (-1))), (wrI (W8n E k (((s6_g u6), (s6_xa u6), (s6_ra u6), (s6_caz u6), (s6_ca u6), (s6_pq u6), (s6_fl u6), (if okM p1 ((s6_cy u6) 3) then 0 else 1)), g6_1 u6, g6_2 u6, g6_3 u6, g6_4 u6, g6_5 u6, g6_6 u6, g6_7 u6, g6_8 u6, g6_9 u6, g6_10 u6) (((s8_q u8), 0, 1, (-1), (s8_rr u8), (s8_z u8), (s8_nb u8), (s8_wa u8)), g8_1 u8, g8_2 u8, g8_3 u8, g8_4 u8)) ((-1))), Ct.perm hp6.symm (Ct.frI (c_X6_idle l E x (s6_xa u6) (s6_g u6) (s6_tr u6) (s6_fl u6) (s6_pl u6) (s6_cy u6) (s6_ca u6) (s6_Fs u6) (s6_Ft u6) (s6_hi u6) (s6_hm u6) (s6_t u6) (s6_dd u6) (s6_ink u6) (s6_mn u6) p1 (by first | assumption | omega) (by first | assumption | omega) (by first | assumption | omega) (by first | assumption | omega) (by first | assumption | omega)) [0, 20, 26, 27, 36, 37, 38] rfl rfl rfl rfl), Ct.perm hp8.symm (Ct.frI (c_X8_idle_n l E k (s8_th u8) (s8_tr8 u8) (s8_wh u8) (s8_rr u8) (s8_q u8) (upN (upN (upN (upN (s8_z u8) 6 (s6_fd u6)) 12 (s6_fl u6)) 19 (s6_ac u6)) 20 (s6_im u6)) (s8_nb u8) (s8_wa u8) (s8_wd u8) (s8_ev u8) (s8_al u8) (s8_wl u8) p1 ) [0] rfl rfl rfl rfl), fun r w h => ⟨_, h.2⟩, ?_⟩
    rintro r w r' w' ⟨rfl, rfl⟩ ⟨rfl, rfl⟩
    exact ⟨congrArg (fun z => some (Value.int z)) (if_neg (okM_0 hy3)), Or.inl ⟨(((s6_g u6), (s6_xa u6), (s6_ra u6), (s6_caz u6), (s6_ca u6), (s6_pq u6), (s6_fl u6), (if okM p1 ((s6_cy u6) 3) then 0 else 1)), g6_1 u6, g6_2 u6, g6_3 u6, g6_4 u6, g6_5 u6, g6_6 u6, g6_7 u6, g6_8 u6, g6_9 u6, g6_10 u6), (((s8_q u8), 0, 1, (-1), (s8_rr u8), (s8_z u8), (s8_nb u8), (s8_wa u8)), g8_1 u8, g8_2 u8, g8_3 u8, g8_4 u8), List.Perm.refl _, List.Perm.refl _, hF, hN, tw_of 1 ((if_neg (okM_0 hy3)).symm) (by decide) (by decide)⟩⟩
  · obtain ⟨u6, u8, hp6, hp8, hF, hG, hP, hW⟩ := hv
    have hfd := hF.1
    have hby := hF.2.1
    have hkw := hF.2.2.1
    have h40z := hF.2.2.2.1
    have h40 := hF.2.2.2.2.1
    have hink2 := hF.2.2.2.2.2.1
    have hwt := hF.2.2.2.2.2.2.1
    have hdy := hF.2.2.2.2.2.2.2.1
    have hds := hF.2.2.2.2.2.2.2.2.1
    have hink := hF.2.2.2.2.2.2.2.2.2.1
    have ht := hF.2.2.2.2.2.2.2.2.2.2.1
    have ho := hF.2.2.2.2.2.2.2.2.2.2.2.1
    have hac := hF.2.2.2.2.2.2.2.2.2.2.2.2.1
    have him := hF.2.2.2.2.2.2.2.2.2.2.2.2.2.1
    have hc0 := hF.2.2.2.2.2.2.2.2.2.2.2.2.2.2.1
    have hc1 := hF.2.2.2.2.2.2.2.2.2.2.2.2.2.2.2.1
    have hc2 := hF.2.2.2.2.2.2.2.2.2.2.2.2.2.2.2.2.1
    have hc3 := hF.2.2.2.2.2.2.2.2.2.2.2.2.2.2.2.2.2.1
    have hc4 := hF.2.2.2.2.2.2.2.2.2.2.2.2.2.2.2.2.2.2.1
    have hc5 := hF.2.2.2.2.2.2.2.2.2.2.2.2.2.2.2.2.2.2.2.1
    have hc6 := hF.2.2.2.2.2.2.2.2.2.2.2.2.2.2.2.2.2.2.2.2.1
    have hc7 := hF.2.2.2.2.2.2.2.2.2.2.2.2.2.2.2.2.2.2.2.2.2
    have htr := hW.1
    have htl := hW.2.1
    have hgb := g8_b hc4 hc5 hc7 hG
    have hfo := hgb.1
    have hon := hgb.2.1
    have htw := hgb.2.2.1
    have hFs := hgb.2.2.2.1
    have hFt := hgb.2.2.2.2.1
    have hik := hgb.2.2.2.2.2.1
    have hun := hgb.2.2.2.2.2.2.1
    have hdi := hgb.2.2.2.2.2.2.2.1
    have hd2 := hgb.2.2.2.2.2.2.2.2.1
    have hd3 := hgb.2.2.2.2.2.2.2.2.2.1
    have hkp := hgb.2.2.2.2.2.2.2.2.2.2.1
    have hm1 := hgb.2.2.2.2.2.2.2.2.2.2.2.1
    have hal_ := hgb.2.2.2.2.2.2.2.2.2.2.2.2
    have hal := hal_ (s6_t u6)
    have hz : ∀ c, (s6_cy u6) 5 ≤ c → (s6_ink u6) c = 0 := hP.1.2.1
    have hmz : ∀ c, (s6_cy u6) 5 ≤ c → (s6_mn u6) c = -1 := hP.1.2.2.1
    have hdd9 : (s6_dd u6) ≤ 999 := hP.1.2.2.2.2
    have hw8 := w8_e hG
    have h30 : ¬ (s6_cy u6) 3 = 0 := by omega
    by_cases hok : okM p1 ((s6_cy u6) 3)
    · refine ⟨(wrI (W6 E x (((s6_g u6), (s6_xa u6), (s6_ra u6), (s6_caz u6), (s6_ca u6), (s6_pq u6), (s6_fl u6), (if okM p1 ((s6_cy u6) 3) then 0 else 1)), g6_1 u6, g6_2 u6, g6_3 u6, g6_4 u6, g6_5 u6, g6_6 u6, g6_7 u6, g6_8 u6, g6_9 u6, g6_10 u6)) (if okM p1 ((s6_cy u6) 3) then nI (bbits (fun c => decide ((bdN (s6_ink u6) (s6_mn u6) p1 0).testBit c = true ∧ kpN (s6_cy u6) (s6_Fs u6) (s6_Ft u6) (s6_t u6) (ndf (bdN (s6_ink u6) (s6_mn u6) p1 0) (2 ^ c)) = kpN (s6_cy u6) (s6_Fs u6) (s6_Ft u6) (s6_t u6) (bdN (s6_ink u6) (s6_mn u6) p1 0))) ((s6_cy u6) 5)) else (-1))), (wrI (W8c E k (((s6_g u6), (s6_xa u6), (s6_ra u6), (s6_caz u6), (s6_ca u6), (s6_pq u6), (s6_fl u6), (if okM p1 ((s6_cy u6) 3) then 0 else 1)), g6_1 u6, g6_2 u6, g6_3 u6, g6_4 u6, g6_5 u6, g6_6 u6, g6_7 u6, g6_8 u6, g6_9 u6, g6_10 u6) (((s8_q u8), 0, 0, (-1), (s8_rr u8), (s8_z u8), (s8_nb u8), (s8_wa u8)), ((s8_wd u8), (allS ((s6_cy u6) 4)), (s8_al u8), (s8_wl u8), (xF (s6_mn u6) (s6_ink u6) (s6_t u6) (s6_dd u6)), (s8_pp u8), (s8_pj8 u8), (lyF (s6_Fs u6) (s6_Ft u6) (s6_t u6) ((s6_cy u6) 4) (s8_ke u8) ((s6_cy u6) 5))), g8_2 u8, g8_3 u8, g8_4 u8)) (nI (bbits (fun c => decide ((bdN (s6_ink u6) (s6_mn u6) p1 0).testBit c = true ∧ kpN (s6_cy u6) (s6_Fs u6) (s6_Ft u6) (s6_t u6) (ndf (bdN (s6_ink u6) (s6_mn u6) p1 0) (2 ^ c)) = kpN (s6_cy u6) (s6_Fs u6) (s6_Ft u6) (s6_t u6) (bdN (s6_ink u6) (s6_mn u6) p1 0))) ((s6_cy u6) 5)))), Ct.perm hp6.symm (Ct.frI (c_X6_idle l E x (s6_xa u6) (s6_g u6) (s6_tr u6) (s6_fl u6) (s6_pl u6) (s6_cy u6) (s6_ca u6) (s6_Fs u6) (s6_Ft u6) (s6_hi u6) (s6_hm u6) (s6_t u6) (s6_dd u6) (s6_ink u6) (s6_mn u6) p1 (by first | assumption | omega) (by first | assumption | omega) (by first | assumption | omega) (by first | assumption | omega) (by first | assumption | omega)) [0, 20, 26, 27, 36, 37, 38] rfl rfl rfl rfl), Ct.perm hp8.symm (Ct.frI (c_X8_idle l E k (s8_th u8) (s8_tr8 u8) (s8_wh u8) (s8_g8 u8) (s8_rr u8) (s8_q u8) (upN (upN (upN (upN (s8_z u8) 6 (s6_fd u6)) 12 (s6_fl u6)) 19 (s6_ac u6)) 20 (s6_im u6)) (s8_nb u8) (s8_wa u8) (s8_wd u8) (s8_ev u8) (s8_al u8) (s8_wl u8) (s6_cy u6) (s8_kp u8) (s8_nc u8) (s8_cb u8) (s8_gf u8) (s8_go_ u8) (s8_gt_ u8) (s8_xf u8) (s6_mn u6) (s6_ink u6) (s6_t u6) (s6_dd u6) (s6_Fs u6) (s6_Ft u6) (s8_ke u8) p1 (by first | assumption | omega) (by first | assumption | omega) (by first | assumption | omega) (by first | assumption | omega) (by first | assumption | omega) (by first | assumption | omega) (by first | assumption | omega) (by first | assumption | omega) (by first | assumption | omega) (by first | assumption | omega)) [0, 10, 13, 14, 15, 2, 3, 6] rfl rfl rfl rfl), fun r w h => ⟨_, h.2⟩, ?_⟩
      rintro r w r' w' ⟨rfl, rfl⟩ ⟨rfl, rfl⟩
      exact ⟨congrArg (fun z => some (Value.int z)) (if_pos hok), Or.inr ⟨(((s6_g u6), (s6_xa u6), (s6_ra u6), (s6_caz u6), (s6_ca u6), (s6_pq u6), (s6_fl u6), (if okM p1 ((s6_cy u6) 3) then 0 else 1)), g6_1 u6, g6_2 u6, g6_3 u6, g6_4 u6, g6_5 u6, g6_6 u6, g6_7 u6, g6_8 u6, g6_9 u6, g6_10 u6), (((s8_q u8), 0, 0, (-1), (s8_rr u8), (s8_z u8), (s8_nb u8), (s8_wa u8)), ((s8_wd u8), (allS ((s6_cy u6) 4)), (s8_al u8), (s8_wl u8), (xF (s6_mn u6) (s6_ink u6) (s6_t u6) (s6_dd u6)), (s8_pp u8), (s8_pj8 u8), (lyF (s6_Fs u6) (s6_Ft u6) (s6_t u6) ((s6_cy u6) 4) (s8_ke u8) ((s6_cy u6) 5))), g8_2 u8, g8_3 u8, g8_4 u8), List.Perm.refl _, List.Perm.refl _, hF, hG, hP, tw_of 0 ((if_pos hok).symm) (by decide) (by decide)⟩⟩
    · refine ⟨(wrI (W6 E x (((s6_g u6), (s6_xa u6), (s6_ra u6), (s6_caz u6), (s6_ca u6), (s6_pq u6), (s6_fl u6), (if okM p1 ((s6_cy u6) 3) then 0 else 1)), g6_1 u6, g6_2 u6, g6_3 u6, g6_4 u6, g6_5 u6, g6_6 u6, g6_7 u6, g6_8 u6, g6_9 u6, g6_10 u6)) (if okM p1 ((s6_cy u6) 3) then nI (bbits (fun c => decide ((bdN (s6_ink u6) (s6_mn u6) p1 0).testBit c = true ∧ kpN (s6_cy u6) (s6_Fs u6) (s6_Ft u6) (s6_t u6) (ndf (bdN (s6_ink u6) (s6_mn u6) p1 0) (2 ^ c)) = kpN (s6_cy u6) (s6_Fs u6) (s6_Ft u6) (s6_t u6) (bdN (s6_ink u6) (s6_mn u6) p1 0))) ((s6_cy u6) 5)) else (-1))), (wrI (W8c E k (((s6_g u6), (s6_xa u6), (s6_ra u6), (s6_caz u6), (s6_ca u6), (s6_pq u6), (s6_fl u6), (if okM p1 ((s6_cy u6) 3) then 0 else 1)), g6_1 u6, g6_2 u6, g6_3 u6, g6_4 u6, g6_5 u6, g6_6 u6, g6_7 u6, g6_8 u6, g6_9 u6, g6_10 u6) (((s8_q u8), 0, 1, (-1), (s8_rr u8), (s8_z u8), (s8_nb u8), (s8_wa u8)), g8_1 u8, g8_2 u8, g8_3 u8, g8_4 u8)) ((-1))), Ct.perm hp6.symm (Ct.frI (c_X6_idle l E x (s6_xa u6) (s6_g u6) (s6_tr u6) (s6_fl u6) (s6_pl u6) (s6_cy u6) (s6_ca u6) (s6_Fs u6) (s6_Ft u6) (s6_hi u6) (s6_hm u6) (s6_t u6) (s6_dd u6) (s6_ink u6) (s6_mn u6) p1 (by first | assumption | omega) (by first | assumption | omega) (by first | assumption | omega) (by first | assumption | omega) (by first | assumption | omega)) [0, 20, 26, 27, 36, 37, 38] rfl rfl rfl rfl), Ct.perm hp8.symm (Ct.frI (c_X8_idle_no l E k (s8_th u8) (s8_tr8 u8) (s8_wh u8) (s8_g8 u8) (s8_rr u8) (s8_q u8) (upN (upN (upN (upN (s8_z u8) 6 (s6_fd u6)) 12 (s6_fl u6)) 19 (s6_ac u6)) 20 (s6_im u6)) (s8_nb u8) (s8_wa u8) (s8_wd u8) (s8_ev u8) (s8_al u8) (s8_wl u8) (s6_cy u6) (s8_kp u8) (s8_nc u8) (s8_cb u8) p1 (by first | assumption | omega)) [0, 10] rfl rfl rfl rfl), fun r w h => ⟨_, h.2⟩, ?_⟩
      rintro r w r' w' ⟨rfl, rfl⟩ ⟨rfl, rfl⟩
      exact ⟨congrArg (fun z => some (Value.int z)) (if_neg hok), Or.inr ⟨(((s6_g u6), (s6_xa u6), (s6_ra u6), (s6_caz u6), (s6_ca u6), (s6_pq u6), (s6_fl u6), (if okM p1 ((s6_cy u6) 3) then 0 else 1)), g6_1 u6, g6_2 u6, g6_3 u6, g6_4 u6, g6_5 u6, g6_6 u6, g6_7 u6, g6_8 u6, g6_9 u6, g6_10 u6), (((s8_q u8), 0, 1, (-1), (s8_rr u8), (s8_z u8), (s8_nb u8), (s8_wa u8)), g8_1 u8, g8_2 u8, g8_3 u8, g8_4 u8), List.Perm.refl _, List.Perm.refl _, hF, hG, hP, tw_of 1 ((if_neg hok).symm) (by decide) (by decide)⟩⟩
set_option maxRecDepth 100000 in
set_option maxHeartbeats 4000000 in
theorem op_heaviest (l : Launch) (E : Et) (x k : Nat) (p1 : Int32) : OpI E x k (fun w P => Ct l E yX6_heaviest cX6_heaviest 7 (some .int) 6 0 0 [.ref x, .int p1] w P) (fun w P => Ct l E yX8_heaviest cX8_heaviest 7 (some .int) 5 0 0 [.ref k, .int p1] w P) := by
  intro w6 w8 hv
  rcases hv with hv | hv
  · obtain ⟨u6, u8, hp6, hp8, hF, hN, hW⟩ := hv
    have hfd := hF.1
    have hby := hF.2.1
    have hkw := hF.2.2.1
    have h40z := hF.2.2.2.1
    have h40 := hF.2.2.2.2.1
    have hink2 := hF.2.2.2.2.2.1
    have hwt := hF.2.2.2.2.2.2.1
    have hdy := hF.2.2.2.2.2.2.2.1
    have hds := hF.2.2.2.2.2.2.2.2.1
    have hink := hF.2.2.2.2.2.2.2.2.2.1
    have ht := hF.2.2.2.2.2.2.2.2.2.2.1
    have ho := hF.2.2.2.2.2.2.2.2.2.2.2.1
    have hac := hF.2.2.2.2.2.2.2.2.2.2.2.2.1
    have him := hF.2.2.2.2.2.2.2.2.2.2.2.2.2.1
    have hc0 := hF.2.2.2.2.2.2.2.2.2.2.2.2.2.2.1
    have hc1 := hF.2.2.2.2.2.2.2.2.2.2.2.2.2.2.2.1
    have hc2 := hF.2.2.2.2.2.2.2.2.2.2.2.2.2.2.2.2.1
    have hc3 := hF.2.2.2.2.2.2.2.2.2.2.2.2.2.2.2.2.2.1
    have hc4 := hF.2.2.2.2.2.2.2.2.2.2.2.2.2.2.2.2.2.2.1
    have hc5 := hF.2.2.2.2.2.2.2.2.2.2.2.2.2.2.2.2.2.2.2.1
    have hc6 := hF.2.2.2.2.2.2.2.2.2.2.2.2.2.2.2.2.2.2.2.2.1
    have hc7 := hF.2.2.2.2.2.2.2.2.2.2.2.2.2.2.2.2.2.2.2.2.2
    have htr := hW.1
    have htl := hW.2.1
    have hy0 := hN.1
    have hy3 : (s6_cy u6) 3 = 0 := hy0 3 (by decide)
    have hy4 : (s6_cy u6) 4 = 0 := hy0 4 (by decide)
    have hy5 : (s6_cy u6) 5 = 0 := hy0 5 (by decide)
    have hy6 : (s6_cy u6) 6 = 0 := hy0 6 (by decide)
    refine ⟨(wrI (W6 E x (((s6_g u6), (s6_xa u6), (s6_ra u6), (s6_caz u6), (s6_ca u6), (s6_pq u6), (s6_fl u6), (if okM p1 ((s6_cy u6) 3) then 0 else 1)), g6_1 u6, g6_2 u6, g6_3 u6, g6_4 u6, g6_5 u6, g6_6 u6, g6_7 u6, g6_8 u6, g6_9 u6, g6_10 u6)) (if okM p1 ((s6_cy u6) 3) then optI (bestO (fun c => (bdN (s6_ink u6) (s6_mn u6) p1 0).testBit c) (fun p qx => decide (pop64 (kpN (s6_cy u6) (s6_Fs u6) (s6_Ft u6) (s6_t u6) (ndf (bdN (s6_ink u6) (s6_mn u6) p1 0) (2 ^ qx))) < pop64 (kpN (s6_cy u6) (s6_Fs u6) (s6_Ft u6) (s6_t u6) (ndf (bdN (s6_ink u6) (s6_mn u6) p1 0) (2 ^ p))))) ((s6_cy u6) 5)) else (-1))), (wrI (W8n E k (((s6_g u6), (s6_xa u6), (s6_ra u6), (s6_caz u6), (s6_ca u6), (s6_pq u6), (s6_fl u6), (if okM p1 ((s6_cy u6) 3) then 0 else 1)), g6_1 u6, g6_2 u6, g6_3 u6, g6_4 u6, g6_5 u6, g6_6 u6, g6_7 u6, g6_8 u6, g6_9 u6, g6_10 u6) (((s8_q u8), 0, 1, (-1), (s8_rr u8), (s8_z u8), (s8_nb u8), (s8_wa u8)), g8_1 u8, g8_2 u8, g8_3 u8, g8_4 u8)) ((-1))), Ct.perm hp6.symm (Ct.frI (c_X6_heaviest l E x (s6_xa u6) (s6_g u6) (s6_tr u6) (s6_fl u6) (s6_pl u6) (s6_cy u6) (s6_ca u6) (s6_Fs u6) (s6_Ft u6) (s6_hi u6) (s6_hm u6) (s6_t u6) (s6_dd u6) (s6_ink u6) (s6_mn u6) p1 (by first | assumption | omega) (by first | assumption | omega) (by first | assumption | omega) (by first | assumption | omega) (by first | assumption | omega)) [0, 20, 26, 27, 36, 37, 38] rfl rfl rfl rfl), Ct.perm hp8.symm (Ct.frI (c_X8_heaviest_n l E k (s8_th u8) (s8_tr8 u8) (s8_wh u8) (s8_rr u8) (s8_q u8) (upN (upN (upN (upN (s8_z u8) 6 (s6_fd u6)) 12 (s6_fl u6)) 19 (s6_ac u6)) 20 (s6_im u6)) (s8_nb u8) (s8_wa u8) (s8_wd u8) (s8_ev u8) (s8_al u8) (s8_wl u8) p1 ) [0] rfl rfl rfl rfl), fun r w h => ⟨_, h.2⟩, ?_⟩
    rintro r w r' w' ⟨rfl, rfl⟩ ⟨rfl, rfl⟩
    exact ⟨congrArg (fun z => some (Value.int z)) (if_neg (okM_0 hy3)), Or.inl ⟨(((s6_g u6), (s6_xa u6), (s6_ra u6), (s6_caz u6), (s6_ca u6), (s6_pq u6), (s6_fl u6), (if okM p1 ((s6_cy u6) 3) then 0 else 1)), g6_1 u6, g6_2 u6, g6_3 u6, g6_4 u6, g6_5 u6, g6_6 u6, g6_7 u6, g6_8 u6, g6_9 u6, g6_10 u6), (((s8_q u8), 0, 1, (-1), (s8_rr u8), (s8_z u8), (s8_nb u8), (s8_wa u8)), g8_1 u8, g8_2 u8, g8_3 u8, g8_4 u8), List.Perm.refl _, List.Perm.refl _, hF, hN, tw_of 1 ((if_neg (okM_0 hy3)).symm) (by decide) (by decide)⟩⟩
  · obtain ⟨u6, u8, hp6, hp8, hF, hG, hP, hW⟩ := hv
    have hfd := hF.1
    have hby := hF.2.1
    have hkw := hF.2.2.1
    have h40z := hF.2.2.2.1
    have h40 := hF.2.2.2.2.1
    have hink2 := hF.2.2.2.2.2.1
    have hwt := hF.2.2.2.2.2.2.1
    have hdy := hF.2.2.2.2.2.2.2.1
    have hds := hF.2.2.2.2.2.2.2.2.1
    have hink := hF.2.2.2.2.2.2.2.2.2.1
    have ht := hF.2.2.2.2.2.2.2.2.2.2.1
    have ho := hF.2.2.2.2.2.2.2.2.2.2.2.1
    have hac := hF.2.2.2.2.2.2.2.2.2.2.2.2.1
    have him := hF.2.2.2.2.2.2.2.2.2.2.2.2.2.1
    have hc0 := hF.2.2.2.2.2.2.2.2.2.2.2.2.2.2.1
    have hc1 := hF.2.2.2.2.2.2.2.2.2.2.2.2.2.2.2.1
    have hc2 := hF.2.2.2.2.2.2.2.2.2.2.2.2.2.2.2.2.1
    have hc3 := hF.2.2.2.2.2.2.2.2.2.2.2.2.2.2.2.2.2.1
    have hc4 := hF.2.2.2.2.2.2.2.2.2.2.2.2.2.2.2.2.2.2.1
    have hc5 := hF.2.2.2.2.2.2.2.2.2.2.2.2.2.2.2.2.2.2.2.1
    have hc6 := hF.2.2.2.2.2.2.2.2.2.2.2.2.2.2.2.2.2.2.2.2.1
    have hc7 := hF.2.2.2.2.2.2.2.2.2.2.2.2.2.2.2.2.2.2.2.2.2
    have htr := hW.1
    have htl := hW.2.1
    have hgb := g8_b hc4 hc5 hc7 hG
    have hfo := hgb.1
    have hon := hgb.2.1
    have htw := hgb.2.2.1
    have hFs := hgb.2.2.2.1
    have hFt := hgb.2.2.2.2.1
    have hik := hgb.2.2.2.2.2.1
    have hun := hgb.2.2.2.2.2.2.1
    have hdi := hgb.2.2.2.2.2.2.2.1
    have hd2 := hgb.2.2.2.2.2.2.2.2.1
    have hd3 := hgb.2.2.2.2.2.2.2.2.2.1
    have hkp := hgb.2.2.2.2.2.2.2.2.2.2.1
    have hm1 := hgb.2.2.2.2.2.2.2.2.2.2.2.1
    have hal_ := hgb.2.2.2.2.2.2.2.2.2.2.2.2
    have hal := hal_ (s6_t u6)
    have hz : ∀ c, (s6_cy u6) 5 ≤ c → (s6_ink u6) c = 0 := hP.1.2.1
    have hmz : ∀ c, (s6_cy u6) 5 ≤ c → (s6_mn u6) c = -1 := hP.1.2.2.1
    have hdd9 : (s6_dd u6) ≤ 999 := hP.1.2.2.2.2
    have hw8 := w8_e hG
    have h30 : ¬ (s6_cy u6) 3 = 0 := by omega
    by_cases hok : okM p1 ((s6_cy u6) 3)
    · refine ⟨(wrI (W6 E x (((s6_g u6), (s6_xa u6), (s6_ra u6), (s6_caz u6), (s6_ca u6), (s6_pq u6), (s6_fl u6), (if okM p1 ((s6_cy u6) 3) then 0 else 1)), g6_1 u6, g6_2 u6, g6_3 u6, g6_4 u6, g6_5 u6, g6_6 u6, g6_7 u6, g6_8 u6, g6_9 u6, g6_10 u6)) (if okM p1 ((s6_cy u6) 3) then optI (bestO (fun c => (bdN (s6_ink u6) (s6_mn u6) p1 0).testBit c) (fun p qx => decide (pop64 (kpN (s6_cy u6) (s6_Fs u6) (s6_Ft u6) (s6_t u6) (ndf (bdN (s6_ink u6) (s6_mn u6) p1 0) (2 ^ qx))) < pop64 (kpN (s6_cy u6) (s6_Fs u6) (s6_Ft u6) (s6_t u6) (ndf (bdN (s6_ink u6) (s6_mn u6) p1 0) (2 ^ p))))) ((s6_cy u6) 5)) else (-1))), (wrI (W8c E k (((s6_g u6), (s6_xa u6), (s6_ra u6), (s6_caz u6), (s6_ca u6), (s6_pq u6), (s6_fl u6), (if okM p1 ((s6_cy u6) 3) then 0 else 1)), g6_1 u6, g6_2 u6, g6_3 u6, g6_4 u6, g6_5 u6, g6_6 u6, g6_7 u6, g6_8 u6, g6_9 u6, g6_10 u6) (((s8_q u8), 0, 0, (-1), (s8_rr u8), (s8_z u8), (s8_nb u8), (s8_wa u8)), ((s8_wd u8), (allS ((s6_cy u6) 4)), (s8_al u8), (s8_wl u8), (xF (s6_mn u6) (s6_ink u6) (s6_t u6) (s6_dd u6)), (s8_pp u8), (s8_pj8 u8), (lyF (s6_Fs u6) (s6_Ft u6) (s6_t u6) ((s6_cy u6) 4) (s8_ke u8) ((s6_cy u6) 5))), g8_2 u8, g8_3 u8, g8_4 u8)) (optI (bestO (fun c => (bdN (s6_ink u6) (s6_mn u6) p1 0).testBit c) (fun p qx => decide (pop64 (kpN (s6_cy u6) (s6_Fs u6) (s6_Ft u6) (s6_t u6) (ndf (bdN (s6_ink u6) (s6_mn u6) p1 0) (2 ^ qx))) < pop64 (kpN (s6_cy u6) (s6_Fs u6) (s6_Ft u6) (s6_t u6) (ndf (bdN (s6_ink u6) (s6_mn u6) p1 0) (2 ^ p))))) ((s6_cy u6) 5)))), Ct.perm hp6.symm (Ct.frI (c_X6_heaviest l E x (s6_xa u6) (s6_g u6) (s6_tr u6) (s6_fl u6) (s6_pl u6) (s6_cy u6) (s6_ca u6) (s6_Fs u6) (s6_Ft u6) (s6_hi u6) (s6_hm u6) (s6_t u6) (s6_dd u6) (s6_ink u6) (s6_mn u6) p1 (by first | assumption | omega) (by first | assumption | omega) (by first | assumption | omega) (by first | assumption | omega) (by first | assumption | omega)) [0, 20, 26, 27, 36, 37, 38] rfl rfl rfl rfl), Ct.perm hp8.symm (Ct.frI (c_X8_heaviest l E k (s8_th u8) (s8_tr8 u8) (s8_wh u8) (s8_g8 u8) (s8_rr u8) (s8_q u8) (upN (upN (upN (upN (s8_z u8) 6 (s6_fd u6)) 12 (s6_fl u6)) 19 (s6_ac u6)) 20 (s6_im u6)) (s8_nb u8) (s8_wa u8) (s8_wd u8) (s8_ev u8) (s8_al u8) (s8_wl u8) (s6_cy u6) (s8_kp u8) (s8_nc u8) (s8_cb u8) (s8_gf u8) (s8_go_ u8) (s8_gt_ u8) (s8_xf u8) (s6_mn u6) (s6_ink u6) (s6_t u6) (s6_dd u6) (s6_Fs u6) (s6_Ft u6) (s8_ke u8) p1 (by first | assumption | omega) (by first | assumption | omega) (by first | assumption | omega) (by first | assumption | omega) (by first | assumption | omega) (by first | assumption | omega) (by first | assumption | omega) (by first | assumption | omega) (by first | assumption | omega) (by first | assumption | omega)) [0, 10, 13, 14, 15, 2, 3, 6] rfl rfl rfl rfl), fun r w h => ⟨_, h.2⟩, ?_⟩
      rintro r w r' w' ⟨rfl, rfl⟩ ⟨rfl, rfl⟩
      exact ⟨congrArg (fun z => some (Value.int z)) (if_pos hok), Or.inr ⟨(((s6_g u6), (s6_xa u6), (s6_ra u6), (s6_caz u6), (s6_ca u6), (s6_pq u6), (s6_fl u6), (if okM p1 ((s6_cy u6) 3) then 0 else 1)), g6_1 u6, g6_2 u6, g6_3 u6, g6_4 u6, g6_5 u6, g6_6 u6, g6_7 u6, g6_8 u6, g6_9 u6, g6_10 u6), (((s8_q u8), 0, 0, (-1), (s8_rr u8), (s8_z u8), (s8_nb u8), (s8_wa u8)), ((s8_wd u8), (allS ((s6_cy u6) 4)), (s8_al u8), (s8_wl u8), (xF (s6_mn u6) (s6_ink u6) (s6_t u6) (s6_dd u6)), (s8_pp u8), (s8_pj8 u8), (lyF (s6_Fs u6) (s6_Ft u6) (s6_t u6) ((s6_cy u6) 4) (s8_ke u8) ((s6_cy u6) 5))), g8_2 u8, g8_3 u8, g8_4 u8), List.Perm.refl _, List.Perm.refl _, hF, hG, hP, tw_of 0 ((if_pos hok).symm) (by decide) (by decide)⟩⟩
    · refine ⟨(wrI (W6 E x (((s6_g u6), (s6_xa u6), (s6_ra u6), (s6_caz u6), (s6_ca u6), (s6_pq u6), (s6_fl u6), (if okM p1 ((s6_cy u6) 3) then 0 else 1)), g6_1 u6, g6_2 u6, g6_3 u6, g6_4 u6, g6_5 u6, g6_6 u6, g6_7 u6, g6_8 u6, g6_9 u6, g6_10 u6)) (if okM p1 ((s6_cy u6) 3) then optI (bestO (fun c => (bdN (s6_ink u6) (s6_mn u6) p1 0).testBit c) (fun p qx => decide (pop64 (kpN (s6_cy u6) (s6_Fs u6) (s6_Ft u6) (s6_t u6) (ndf (bdN (s6_ink u6) (s6_mn u6) p1 0) (2 ^ qx))) < pop64 (kpN (s6_cy u6) (s6_Fs u6) (s6_Ft u6) (s6_t u6) (ndf (bdN (s6_ink u6) (s6_mn u6) p1 0) (2 ^ p))))) ((s6_cy u6) 5)) else (-1))), (wrI (W8c E k (((s6_g u6), (s6_xa u6), (s6_ra u6), (s6_caz u6), (s6_ca u6), (s6_pq u6), (s6_fl u6), (if okM p1 ((s6_cy u6) 3) then 0 else 1)), g6_1 u6, g6_2 u6, g6_3 u6, g6_4 u6, g6_5 u6, g6_6 u6, g6_7 u6, g6_8 u6, g6_9 u6, g6_10 u6) (((s8_q u8), 0, 1, (-1), (s8_rr u8), (s8_z u8), (s8_nb u8), (s8_wa u8)), g8_1 u8, g8_2 u8, g8_3 u8, g8_4 u8)) ((-1))), Ct.perm hp6.symm (Ct.frI (c_X6_heaviest l E x (s6_xa u6) (s6_g u6) (s6_tr u6) (s6_fl u6) (s6_pl u6) (s6_cy u6) (s6_ca u6) (s6_Fs u6) (s6_Ft u6) (s6_hi u6) (s6_hm u6) (s6_t u6) (s6_dd u6) (s6_ink u6) (s6_mn u6) p1 (by first | assumption | omega) (by first | assumption | omega) (by first | assumption | omega) (by first | assumption | omega) (by first | assumption | omega)) [0, 20, 26, 27, 36, 37, 38] rfl rfl rfl rfl), Ct.perm hp8.symm (Ct.frI (c_X8_heaviest_no l E k (s8_th u8) (s8_tr8 u8) (s8_wh u8) (s8_g8 u8) (s8_rr u8) (s8_q u8) (upN (upN (upN (upN (s8_z u8) 6 (s6_fd u6)) 12 (s6_fl u6)) 19 (s6_ac u6)) 20 (s6_im u6)) (s8_nb u8) (s8_wa u8) (s8_wd u8) (s8_ev u8) (s8_al u8) (s8_wl u8) (s6_cy u6) (s8_kp u8) (s8_nc u8) (s8_cb u8) p1 (by first | assumption | omega)) [0, 10] rfl rfl rfl rfl), fun r w h => ⟨_, h.2⟩, ?_⟩
      rintro r w r' w' ⟨rfl, rfl⟩ ⟨rfl, rfl⟩
      exact ⟨congrArg (fun z => some (Value.int z)) (if_neg hok), Or.inr ⟨(((s6_g u6), (s6_xa u6), (s6_ra u6), (s6_caz u6), (s6_ca u6), (s6_pq u6), (s6_fl u6), (if okM p1 ((s6_cy u6) 3) then 0 else 1)), g6_1 u6, g6_2 u6, g6_3 u6, g6_4 u6, g6_5 u6, g6_6 u6, g6_7 u6, g6_8 u6, g6_9 u6, g6_10 u6), (((s8_q u8), 0, 1, (-1), (s8_rr u8), (s8_z u8), (s8_nb u8), (s8_wa u8)), g8_1 u8, g8_2 u8, g8_3 u8, g8_4 u8), List.Perm.refl _, List.Perm.refl _, hF, hG, hP, tw_of 1 ((if_neg hok).symm) (by decide) (by decide)⟩⟩
set_option maxRecDepth 100000 in
set_option maxHeartbeats 4000000 in
theorem op_feared (l : Launch) (E : Et) (x k : Nat) (p1 : Int32) : OpI E x k (fun w P => Ct l E yX6_feared cX6_feared 7 (some .int) 6 0 0 [.ref x, .int p1] w P) (fun w P => Ct l E yX8_feared cX8_feared 6 (some .int) 5 0 0 [.ref k, .int p1] w P) := by
  intro w6 w8 hv
  rcases hv with hv | hv
  · obtain ⟨u6, u8, hp6, hp8, hF, hN, hW⟩ := hv
    have hfd := hF.1
    have hby := hF.2.1
    have hkw := hF.2.2.1
    have h40z := hF.2.2.2.1
    have h40 := hF.2.2.2.2.1
    have hink2 := hF.2.2.2.2.2.1
    have hwt := hF.2.2.2.2.2.2.1
    have hdy := hF.2.2.2.2.2.2.2.1
    have hds := hF.2.2.2.2.2.2.2.2.1
    have hink := hF.2.2.2.2.2.2.2.2.2.1
    have ht := hF.2.2.2.2.2.2.2.2.2.2.1
    have ho := hF.2.2.2.2.2.2.2.2.2.2.2.1
    have hac := hF.2.2.2.2.2.2.2.2.2.2.2.2.1
    have him := hF.2.2.2.2.2.2.2.2.2.2.2.2.2.1
    have hc0 := hF.2.2.2.2.2.2.2.2.2.2.2.2.2.2.1
    have hc1 := hF.2.2.2.2.2.2.2.2.2.2.2.2.2.2.2.1
    have hc2 := hF.2.2.2.2.2.2.2.2.2.2.2.2.2.2.2.2.1
    have hc3 := hF.2.2.2.2.2.2.2.2.2.2.2.2.2.2.2.2.2.1
    have hc4 := hF.2.2.2.2.2.2.2.2.2.2.2.2.2.2.2.2.2.2.1
    have hc5 := hF.2.2.2.2.2.2.2.2.2.2.2.2.2.2.2.2.2.2.2.1
    have hc6 := hF.2.2.2.2.2.2.2.2.2.2.2.2.2.2.2.2.2.2.2.2.1
    have hc7 := hF.2.2.2.2.2.2.2.2.2.2.2.2.2.2.2.2.2.2.2.2.2
    have htr := hW.1
    have htl := hW.2.1
    have hy0 := hN.1
    have hy3 : (s6_cy u6) 3 = 0 := hy0 3 (by decide)
    have hy4 : (s6_cy u6) 4 = 0 := hy0 4 (by decide)
    have hy5 : (s6_cy u6) 5 = 0 := hy0 5 (by decide)
    have hy6 : (s6_cy u6) 6 = 0 := hy0 6 (by decide)
    refine ⟨(wrI (W6 E x (((s6_g u6), (s6_xa u6), (s6_ra u6), (s6_caz u6), (s6_ca u6), (s6_pq u6), (s6_fl u6), (if okM p1 ((s6_cy u6) 3) then 0 else 1)), g6_1 u6, g6_2 u6, g6_3 u6, g6_4 u6, g6_5 u6, g6_6 u6, g6_7 u6, g6_8 u6, g6_9 u6, g6_10 u6)) (if okM p1 ((s6_cy u6) 3) then nI (bbits (fun c => decide (¬ kpN (s6_cy u6) (s6_Fs u6) (s6_Ft u6) (s6_t u6) (bdN (s6_ink u6) (s6_mn u6) p1 0) = 0 ∧ (ndf (bbits (fun c => decide (0 < (s6_ink u6) c)) 8) (bbits (fun c => decide ((s6_mn u6) c = p1)) 8)).testBit c = true ∧ kpN (s6_cy u6) (s6_Fs u6) (s6_Ft u6) (s6_t u6) (bdN (s6_ink u6) (s6_mn u6) p1 0 ||| 2 ^ c) = 0)) ((s6_cy u6) 5)) else (-1))), (wrI (W8n E k (((s6_g u6), (s6_xa u6), (s6_ra u6), (s6_caz u6), (s6_ca u6), (s6_pq u6), (s6_fl u6), (if okM p1 ((s6_cy u6) 3) then 0 else 1)), g6_1 u6, g6_2 u6, g6_3 u6, g6_4 u6, g6_5 u6, g6_6 u6, g6_7 u6, g6_8 u6, g6_9 u6, g6_10 u6) (((s8_q u8), 0, 1, (-1), (s8_rr u8), (s8_z u8), (s8_nb u8), (s8_wa u8)), g8_1 u8, g8_2 u8, g8_3 u8, g8_4 u8)) ((-1))), Ct.perm hp6.symm (Ct.frI (c_X6_feared l E x (s6_xa u6) (s6_g u6) (s6_tr u6) (s6_fl u6) (s6_pl u6) (s6_cy u6) (s6_ca u6) (s6_Fs u6) (s6_Ft u6) (s6_hi u6) (s6_hm u6) (s6_t u6) (s6_dd u6) (s6_ink u6) (s6_mn u6) p1 (by first | assumption | omega) (by first | assumption | omega) (by first | assumption | omega) (by first | assumption | omega) (by first | assumption | omega)) [0, 20, 26, 27, 36, 37, 38] rfl rfl rfl rfl), Ct.perm hp8.symm (Ct.frI (c_X8_feared_n l E k (s8_th u8) (s8_tr8 u8) (s8_wh u8) (s8_rr u8) (s8_q u8) (upN (upN (upN (upN (s8_z u8) 6 (s6_fd u6)) 12 (s6_fl u6)) 19 (s6_ac u6)) 20 (s6_im u6)) (s8_nb u8) (s8_wa u8) (s8_wd u8) (s8_ev u8) (s8_al u8) (s8_wl u8) p1 ) [0] rfl rfl rfl rfl), fun r w h => ⟨_, h.2⟩, ?_⟩
    rintro r w r' w' ⟨rfl, rfl⟩ ⟨rfl, rfl⟩
    exact ⟨congrArg (fun z => some (Value.int z)) (if_neg (okM_0 hy3)), Or.inl ⟨(((s6_g u6), (s6_xa u6), (s6_ra u6), (s6_caz u6), (s6_ca u6), (s6_pq u6), (s6_fl u6), (if okM p1 ((s6_cy u6) 3) then 0 else 1)), g6_1 u6, g6_2 u6, g6_3 u6, g6_4 u6, g6_5 u6, g6_6 u6, g6_7 u6, g6_8 u6, g6_9 u6, g6_10 u6), (((s8_q u8), 0, 1, (-1), (s8_rr u8), (s8_z u8), (s8_nb u8), (s8_wa u8)), g8_1 u8, g8_2 u8, g8_3 u8, g8_4 u8), List.Perm.refl _, List.Perm.refl _, hF, hN, tw_of 1 ((if_neg (okM_0 hy3)).symm) (by decide) (by decide)⟩⟩
  · obtain ⟨u6, u8, hp6, hp8, hF, hG, hP, hW⟩ := hv
    have hfd := hF.1
    have hby := hF.2.1
    have hkw := hF.2.2.1
    have h40z := hF.2.2.2.1
    have h40 := hF.2.2.2.2.1
    have hink2 := hF.2.2.2.2.2.1
    have hwt := hF.2.2.2.2.2.2.1
    have hdy := hF.2.2.2.2.2.2.2.1
    have hds := hF.2.2.2.2.2.2.2.2.1
    have hink := hF.2.2.2.2.2.2.2.2.2.1
    have ht := hF.2.2.2.2.2.2.2.2.2.2.1
    have ho := hF.2.2.2.2.2.2.2.2.2.2.2.1
    have hac := hF.2.2.2.2.2.2.2.2.2.2.2.2.1
    have him := hF.2.2.2.2.2.2.2.2.2.2.2.2.2.1
    have hc0 := hF.2.2.2.2.2.2.2.2.2.2.2.2.2.2.1
    have hc1 := hF.2.2.2.2.2.2.2.2.2.2.2.2.2.2.2.1
    have hc2 := hF.2.2.2.2.2.2.2.2.2.2.2.2.2.2.2.2.1
    have hc3 := hF.2.2.2.2.2.2.2.2.2.2.2.2.2.2.2.2.2.1
    have hc4 := hF.2.2.2.2.2.2.2.2.2.2.2.2.2.2.2.2.2.2.1
    have hc5 := hF.2.2.2.2.2.2.2.2.2.2.2.2.2.2.2.2.2.2.2.1
    have hc6 := hF.2.2.2.2.2.2.2.2.2.2.2.2.2.2.2.2.2.2.2.2.1
    have hc7 := hF.2.2.2.2.2.2.2.2.2.2.2.2.2.2.2.2.2.2.2.2.2
    have htr := hW.1
    have htl := hW.2.1
    have hgb := g8_b hc4 hc5 hc7 hG
    have hfo := hgb.1
    have hon := hgb.2.1
    have htw := hgb.2.2.1
    have hFs := hgb.2.2.2.1
    have hFt := hgb.2.2.2.2.1
    have hik := hgb.2.2.2.2.2.1
    have hun := hgb.2.2.2.2.2.2.1
    have hdi := hgb.2.2.2.2.2.2.2.1
    have hd2 := hgb.2.2.2.2.2.2.2.2.1
    have hd3 := hgb.2.2.2.2.2.2.2.2.2.1
    have hkp := hgb.2.2.2.2.2.2.2.2.2.2.1
    have hm1 := hgb.2.2.2.2.2.2.2.2.2.2.2.1
    have hal_ := hgb.2.2.2.2.2.2.2.2.2.2.2.2
    have hal := hal_ (s6_t u6)
    have hz : ∀ c, (s6_cy u6) 5 ≤ c → (s6_ink u6) c = 0 := hP.1.2.1
    have hmz : ∀ c, (s6_cy u6) 5 ≤ c → (s6_mn u6) c = -1 := hP.1.2.2.1
    have hdd9 : (s6_dd u6) ≤ 999 := hP.1.2.2.2.2
    have hw8 := w8_e hG
    have h30 : ¬ (s6_cy u6) 3 = 0 := by omega
    by_cases hok : okM p1 ((s6_cy u6) 3)
    · refine ⟨(wrI (W6 E x (((s6_g u6), (s6_xa u6), (s6_ra u6), (s6_caz u6), (s6_ca u6), (s6_pq u6), (s6_fl u6), (if okM p1 ((s6_cy u6) 3) then 0 else 1)), g6_1 u6, g6_2 u6, g6_3 u6, g6_4 u6, g6_5 u6, g6_6 u6, g6_7 u6, g6_8 u6, g6_9 u6, g6_10 u6)) (if okM p1 ((s6_cy u6) 3) then nI (bbits (fun c => decide (¬ kpN (s6_cy u6) (s6_Fs u6) (s6_Ft u6) (s6_t u6) (bdN (s6_ink u6) (s6_mn u6) p1 0) = 0 ∧ (ndf (bbits (fun c => decide (0 < (s6_ink u6) c)) 8) (bbits (fun c => decide ((s6_mn u6) c = p1)) 8)).testBit c = true ∧ kpN (s6_cy u6) (s6_Fs u6) (s6_Ft u6) (s6_t u6) (bdN (s6_ink u6) (s6_mn u6) p1 0 ||| 2 ^ c) = 0)) ((s6_cy u6) 5)) else (-1))), (wrI (W8c E k (((s6_g u6), (s6_xa u6), (s6_ra u6), (s6_caz u6), (s6_ca u6), (s6_pq u6), (s6_fl u6), (if okM p1 ((s6_cy u6) 3) then 0 else 1)), g6_1 u6, g6_2 u6, g6_3 u6, g6_4 u6, g6_5 u6, g6_6 u6, g6_7 u6, g6_8 u6, g6_9 u6, g6_10 u6) (((s8_q u8), 0, 0, (-1), (s8_rr u8), (s8_z u8), (s8_nb u8), (s8_wa u8)), ((s8_wd u8), (allS ((s6_cy u6) 4)), (s8_al u8), (s8_wl u8), (xF (s6_mn u6) (s6_ink u6) (s6_t u6) (s6_dd u6)), (s8_pp u8), (s8_pj8 u8), (lyF (s6_Fs u6) (s6_Ft u6) (s6_t u6) ((s6_cy u6) 4) (s8_ke u8) ((s6_cy u6) 5))), g8_2 u8, g8_3 u8, g8_4 u8)) (nI (bbits (fun c => decide (¬ kpN (s6_cy u6) (s6_Fs u6) (s6_Ft u6) (s6_t u6) (bdN (s6_ink u6) (s6_mn u6) p1 0) = 0 ∧ (ndf (bbits (fun c => decide (0 < (s6_ink u6) c)) 8) (bbits (fun c => decide ((s6_mn u6) c = p1)) 8)).testBit c = true ∧ kpN (s6_cy u6) (s6_Fs u6) (s6_Ft u6) (s6_t u6) (bdN (s6_ink u6) (s6_mn u6) p1 0 ||| 2 ^ c) = 0)) ((s6_cy u6) 5)))), Ct.perm hp6.symm (Ct.frI (c_X6_feared l E x (s6_xa u6) (s6_g u6) (s6_tr u6) (s6_fl u6) (s6_pl u6) (s6_cy u6) (s6_ca u6) (s6_Fs u6) (s6_Ft u6) (s6_hi u6) (s6_hm u6) (s6_t u6) (s6_dd u6) (s6_ink u6) (s6_mn u6) p1 (by first | assumption | omega) (by first | assumption | omega) (by first | assumption | omega) (by first | assumption | omega) (by first | assumption | omega)) [0, 20, 26, 27, 36, 37, 38] rfl rfl rfl rfl), Ct.perm hp8.symm (Ct.frI (c_X8_feared l E k (s8_th u8) (s8_tr8 u8) (s8_wh u8) (s8_g8 u8) (s8_rr u8) (s8_q u8) (upN (upN (upN (upN (s8_z u8) 6 (s6_fd u6)) 12 (s6_fl u6)) 19 (s6_ac u6)) 20 (s6_im u6)) (s8_nb u8) (s8_wa u8) (s8_wd u8) (s8_ev u8) (s8_al u8) (s8_wl u8) (s6_cy u6) (s8_kp u8) (s8_nc u8) (s8_cb u8) (s8_gf u8) (s8_go_ u8) (s8_gt_ u8) (s8_xf u8) (s6_mn u6) (s6_ink u6) (s6_t u6) (s6_dd u6) (s6_Fs u6) (s6_Ft u6) (s8_ke u8) p1 (by first | assumption | omega) (by first | assumption | omega) (by first | assumption | omega) (by first | assumption | omega) (by first | assumption | omega) (by first | assumption | omega) (by first | assumption | omega) (by first | assumption | omega) (by first | assumption | omega) (by first | assumption | omega)) [0, 10, 13, 14, 15, 2, 3, 6] rfl rfl rfl rfl), fun r w h => ⟨_, h.2⟩, ?_⟩
      rintro r w r' w' ⟨rfl, rfl⟩ ⟨rfl, rfl⟩
      exact ⟨congrArg (fun z => some (Value.int z)) (if_pos hok), Or.inr ⟨(((s6_g u6), (s6_xa u6), (s6_ra u6), (s6_caz u6), (s6_ca u6), (s6_pq u6), (s6_fl u6), (if okM p1 ((s6_cy u6) 3) then 0 else 1)), g6_1 u6, g6_2 u6, g6_3 u6, g6_4 u6, g6_5 u6, g6_6 u6, g6_7 u6, g6_8 u6, g6_9 u6, g6_10 u6), (((s8_q u8), 0, 0, (-1), (s8_rr u8), (s8_z u8), (s8_nb u8), (s8_wa u8)), ((s8_wd u8), (allS ((s6_cy u6) 4)), (s8_al u8), (s8_wl u8), (xF (s6_mn u6) (s6_ink u6) (s6_t u6) (s6_dd u6)), (s8_pp u8), (s8_pj8 u8), (lyF (s6_Fs u6) (s6_Ft u6) (s6_t u6) ((s6_cy u6) 4) (s8_ke u8) ((s6_cy u6) 5))), g8_2 u8, g8_3 u8, g8_4 u8), List.Perm.refl _, List.Perm.refl _, hF, hG, hP, tw_of 0 ((if_pos hok).symm) (by decide) (by decide)⟩⟩
    · refine ⟨(wrI (W6 E x (((s6_g u6), (s6_xa u6), (s6_ra u6), (s6_caz u6), (s6_ca u6), (s6_pq u6), (s6_fl u6), (if okM p1 ((s6_cy u6) 3) then 0 else 1)), g6_1 u6, g6_2 u6, g6_3 u6, g6_4 u6, g6_5 u6, g6_6 u6, g6_7 u6, g6_8 u6, g6_9 u6, g6_10 u6)) (if okM p1 ((s6_cy u6) 3) then nI (bbits (fun c => decide (¬ kpN (s6_cy u6) (s6_Fs u6) (s6_Ft u6) (s6_t u6) (bdN (s6_ink u6) (s6_mn u6) p1 0) = 0 ∧ (ndf (bbits (fun c => decide (0 < (s6_ink u6) c)) 8) (bbits (fun c => decide ((s6_mn u6) c = p1)) 8)).testBit c = true ∧ kpN (s6_cy u6) (s6_Fs u6) (s6_Ft u6) (s6_t u6) (bdN (s6_ink u6) (s6_mn u6) p1 0 ||| 2 ^ c) = 0)) ((s6_cy u6) 5)) else (-1))), (wrI (W8c E k (((s6_g u6), (s6_xa u6), (s6_ra u6), (s6_caz u6), (s6_ca u6), (s6_pq u6), (s6_fl u6), (if okM p1 ((s6_cy u6) 3) then 0 else 1)), g6_1 u6, g6_2 u6, g6_3 u6, g6_4 u6, g6_5 u6, g6_6 u6, g6_7 u6, g6_8 u6, g6_9 u6, g6_10 u6) (((s8_q u8), 0, 1, (-1), (s8_rr u8), (s8_z u8), (s8_nb u8), (s8_wa u8)), g8_1 u8, g8_2 u8, g8_3 u8, g8_4 u8)) ((-1))), Ct.perm hp6.symm (Ct.frI (c_X6_feared l E x (s6_xa u6) (s6_g u6) (s6_tr u6) (s6_fl u6) (s6_pl u6) (s6_cy u6) (s6_ca u6) (s6_Fs u6) (s6_Ft u6) (s6_hi u6) (s6_hm u6) (s6_t u6) (s6_dd u6) (s6_ink u6) (s6_mn u6) p1 (by first | assumption | omega) (by first | assumption | omega) (by first | assumption | omega) (by first | assumption | omega) (by first | assumption | omega)) [0, 20, 26, 27, 36, 37, 38] rfl rfl rfl rfl), Ct.perm hp8.symm (Ct.frI (c_X8_feared_no l E k (s8_th u8) (s8_tr8 u8) (s8_wh u8) (s8_g8 u8) (s8_rr u8) (s8_q u8) (upN (upN (upN (upN (s8_z u8) 6 (s6_fd u6)) 12 (s6_fl u6)) 19 (s6_ac u6)) 20 (s6_im u6)) (s8_nb u8) (s8_wa u8) (s8_wd u8) (s8_ev u8) (s8_al u8) (s8_wl u8) (s6_cy u6) (s8_kp u8) (s8_nc u8) (s8_cb u8) p1 (by first | assumption | omega)) [0, 10] rfl rfl rfl rfl), fun r w h => ⟨_, h.2⟩, ?_⟩
      rintro r w r' w' ⟨rfl, rfl⟩ ⟨rfl, rfl⟩
      exact ⟨congrArg (fun z => some (Value.int z)) (if_neg hok), Or.inr ⟨(((s6_g u6), (s6_xa u6), (s6_ra u6), (s6_caz u6), (s6_ca u6), (s6_pq u6), (s6_fl u6), (if okM p1 ((s6_cy u6) 3) then 0 else 1)), g6_1 u6, g6_2 u6, g6_3 u6, g6_4 u6, g6_5 u6, g6_6 u6, g6_7 u6, g6_8 u6, g6_9 u6, g6_10 u6), (((s8_q u8), 0, 1, (-1), (s8_rr u8), (s8_z u8), (s8_nb u8), (s8_wa u8)), g8_1 u8, g8_2 u8, g8_3 u8, g8_4 u8), List.Perm.refl _, List.Perm.refl _, hF, hG, hP, tw_of 1 ((if_neg hok).symm) (by decide) (by decide)⟩⟩
set_option maxRecDepth 100000 in
set_option maxHeartbeats 4000000 in
theorem op_freeIn (l : Launch) (E : Et) (x k : Nat) (p1 : Int32) : OpI E x k (fun w P => Ct l E yX6_freeIn cX6_freeIn 3 (some .int) 6 0 0 [.ref x, .int p1] w P) (fun w P => Ct l E yX8_freeIn cX8_freeIn 3 (some .int) 5 0 0 [.ref k, .int p1] w P) := by
  intro w6 w8 hv
  rcases hv with hv | hv
  · obtain ⟨u6, u8, hp6, hp8, hF, hN, hW⟩ := hv
    have hfd := hF.1
    have hby := hF.2.1
    have hkw := hF.2.2.1
    have h40z := hF.2.2.2.1
    have h40 := hF.2.2.2.2.1
    have hink2 := hF.2.2.2.2.2.1
    have hwt := hF.2.2.2.2.2.2.1
    have hdy := hF.2.2.2.2.2.2.2.1
    have hds := hF.2.2.2.2.2.2.2.2.1
    have hink := hF.2.2.2.2.2.2.2.2.2.1
    have ht := hF.2.2.2.2.2.2.2.2.2.2.1
    have ho := hF.2.2.2.2.2.2.2.2.2.2.2.1
    have hac := hF.2.2.2.2.2.2.2.2.2.2.2.2.1
    have him := hF.2.2.2.2.2.2.2.2.2.2.2.2.2.1
    have hc0 := hF.2.2.2.2.2.2.2.2.2.2.2.2.2.2.1
    have hc1 := hF.2.2.2.2.2.2.2.2.2.2.2.2.2.2.2.1
    have hc2 := hF.2.2.2.2.2.2.2.2.2.2.2.2.2.2.2.2.1
    have hc3 := hF.2.2.2.2.2.2.2.2.2.2.2.2.2.2.2.2.2.1
    have hc4 := hF.2.2.2.2.2.2.2.2.2.2.2.2.2.2.2.2.2.2.1
    have hc5 := hF.2.2.2.2.2.2.2.2.2.2.2.2.2.2.2.2.2.2.2.1
    have hc6 := hF.2.2.2.2.2.2.2.2.2.2.2.2.2.2.2.2.2.2.2.2.1
    have hc7 := hF.2.2.2.2.2.2.2.2.2.2.2.2.2.2.2.2.2.2.2.2.2
    have htr := hW.1
    have htl := hW.2.1
    have hy0 := hN.1
    have hy3 : (s6_cy u6) 3 = 0 := hy0 3 (by decide)
    have hy4 : (s6_cy u6) 4 = 0 := hy0 4 (by decide)
    have hy5 : (s6_cy u6) 5 = 0 := hy0 5 (by decide)
    have hy6 : (s6_cy u6) 6 = 0 := hy0 6 (by decide)
    refine ⟨(wrI (W6 E x (((s6_g u6), (s6_xa u6), (s6_ra u6), (s6_caz u6), (s6_ca u6), (s6_pq u6), (s6_fl u6), (if okM p1 ((s6_cy u6) 3) then 0 else 1)), g6_1 u6, g6_2 u6, g6_3 u6, g6_4 u6, g6_5 u6, g6_6 u6, g6_7 u6, g6_8 u6, g6_9 u6, g6_10 u6)) (if okM p1 ((s6_cy u6) 3) then nI ((fst_ (fun n => decide (¬ kpN (s6_cy u6) (s6_Fs u6) (s6_Ft u6) (s6_t u6) (bdN (s6_ink u6) (s6_mn u6) p1 n) = 0)) 60 0).getD 60) else (-1))), (wrI (W8n E k (((s6_g u6), (s6_xa u6), (s6_ra u6), (s6_caz u6), (s6_ca u6), (s6_pq u6), (s6_fl u6), (if okM p1 ((s6_cy u6) 3) then 0 else 1)), g6_1 u6, g6_2 u6, g6_3 u6, g6_4 u6, g6_5 u6, g6_6 u6, g6_7 u6, g6_8 u6, g6_9 u6, g6_10 u6) (((s8_q u8), 0, 1, (-1), (s8_rr u8), (s8_z u8), (s8_nb u8), (s8_wa u8)), g8_1 u8, g8_2 u8, g8_3 u8, g8_4 u8)) ((-1))), Ct.perm hp6.symm (Ct.frI (c_X6_freeIn l E x (s6_xa u6) (s6_g u6) (s6_tr u6) (s6_fl u6) (s6_pl u6) (s6_cy u6) (s6_ca u6) (s6_Fs u6) (s6_Ft u6) (s6_hi u6) (s6_hm u6) (s6_t u6) (s6_dd u6) (s6_ink u6) (s6_mn u6) p1 (by first | assumption | omega) (by first | assumption | omega) (by first | assumption | omega) (by first | assumption | omega) (by first | assumption | omega)) [0, 20, 26, 27, 36, 37, 38] rfl rfl rfl rfl), Ct.perm hp8.symm (Ct.frI (c_X8_freeIn_n l E k (s8_th u8) (s8_tr8 u8) (s8_wh u8) (s8_rr u8) (s8_q u8) (upN (upN (upN (upN (s8_z u8) 6 (s6_fd u6)) 12 (s6_fl u6)) 19 (s6_ac u6)) 20 (s6_im u6)) (s8_nb u8) (s8_wa u8) (s8_wd u8) (s8_ev u8) (s8_al u8) (s8_wl u8) p1 ) [0] rfl rfl rfl rfl), fun r w h => ⟨_, h.2⟩, ?_⟩
    rintro r w r' w' ⟨rfl, rfl⟩ ⟨rfl, rfl⟩
    exact ⟨congrArg (fun z => some (Value.int z)) (if_neg (okM_0 hy3)), Or.inl ⟨(((s6_g u6), (s6_xa u6), (s6_ra u6), (s6_caz u6), (s6_ca u6), (s6_pq u6), (s6_fl u6), (if okM p1 ((s6_cy u6) 3) then 0 else 1)), g6_1 u6, g6_2 u6, g6_3 u6, g6_4 u6, g6_5 u6, g6_6 u6, g6_7 u6, g6_8 u6, g6_9 u6, g6_10 u6), (((s8_q u8), 0, 1, (-1), (s8_rr u8), (s8_z u8), (s8_nb u8), (s8_wa u8)), g8_1 u8, g8_2 u8, g8_3 u8, g8_4 u8), List.Perm.refl _, List.Perm.refl _, hF, hN, tw_of 1 ((if_neg (okM_0 hy3)).symm) (by decide) (by decide)⟩⟩
  · obtain ⟨u6, u8, hp6, hp8, hF, hG, hP, hW⟩ := hv
    have hfd := hF.1
    have hby := hF.2.1
    have hkw := hF.2.2.1
    have h40z := hF.2.2.2.1
    have h40 := hF.2.2.2.2.1
    have hink2 := hF.2.2.2.2.2.1
    have hwt := hF.2.2.2.2.2.2.1
    have hdy := hF.2.2.2.2.2.2.2.1
    have hds := hF.2.2.2.2.2.2.2.2.1
    have hink := hF.2.2.2.2.2.2.2.2.2.1
    have ht := hF.2.2.2.2.2.2.2.2.2.2.1
    have ho := hF.2.2.2.2.2.2.2.2.2.2.2.1
    have hac := hF.2.2.2.2.2.2.2.2.2.2.2.2.1
    have him := hF.2.2.2.2.2.2.2.2.2.2.2.2.2.1
    have hc0 := hF.2.2.2.2.2.2.2.2.2.2.2.2.2.2.1
    have hc1 := hF.2.2.2.2.2.2.2.2.2.2.2.2.2.2.2.1
    have hc2 := hF.2.2.2.2.2.2.2.2.2.2.2.2.2.2.2.2.1
    have hc3 := hF.2.2.2.2.2.2.2.2.2.2.2.2.2.2.2.2.2.1
    have hc4 := hF.2.2.2.2.2.2.2.2.2.2.2.2.2.2.2.2.2.2.1
    have hc5 := hF.2.2.2.2.2.2.2.2.2.2.2.2.2.2.2.2.2.2.2.1
    have hc6 := hF.2.2.2.2.2.2.2.2.2.2.2.2.2.2.2.2.2.2.2.2.1
    have hc7 := hF.2.2.2.2.2.2.2.2.2.2.2.2.2.2.2.2.2.2.2.2.2
    have htr := hW.1
    have htl := hW.2.1
    have hgb := g8_b hc4 hc5 hc7 hG
    have hfo := hgb.1
    have hon := hgb.2.1
    have htw := hgb.2.2.1
    have hFs := hgb.2.2.2.1
    have hFt := hgb.2.2.2.2.1
    have hik := hgb.2.2.2.2.2.1
    have hun := hgb.2.2.2.2.2.2.1
    have hdi := hgb.2.2.2.2.2.2.2.1
    have hd2 := hgb.2.2.2.2.2.2.2.2.1
    have hd3 := hgb.2.2.2.2.2.2.2.2.2.1
    have hkp := hgb.2.2.2.2.2.2.2.2.2.2.1
    have hm1 := hgb.2.2.2.2.2.2.2.2.2.2.2.1
    have hal_ := hgb.2.2.2.2.2.2.2.2.2.2.2.2
    have hal := hal_ (s6_t u6)
    have hz : ∀ c, (s6_cy u6) 5 ≤ c → (s6_ink u6) c = 0 := hP.1.2.1
    have hmz : ∀ c, (s6_cy u6) 5 ≤ c → (s6_mn u6) c = -1 := hP.1.2.2.1
    have hdd9 : (s6_dd u6) ≤ 999 := hP.1.2.2.2.2
    have hw8 := w8_e hG
    have h30 : ¬ (s6_cy u6) 3 = 0 := by omega
    by_cases hok : okM p1 ((s6_cy u6) 3)
    · refine ⟨(wrI (W6 E x (((s6_g u6), (s6_xa u6), (s6_ra u6), (s6_caz u6), (s6_ca u6), (s6_pq u6), (s6_fl u6), (if okM p1 ((s6_cy u6) 3) then 0 else 1)), g6_1 u6, g6_2 u6, g6_3 u6, g6_4 u6, g6_5 u6, g6_6 u6, g6_7 u6, g6_8 u6, g6_9 u6, g6_10 u6)) (if okM p1 ((s6_cy u6) 3) then nI ((fst_ (fun n => decide (¬ kpN (s6_cy u6) (s6_Fs u6) (s6_Ft u6) (s6_t u6) (bdN (s6_ink u6) (s6_mn u6) p1 n) = 0)) 60 0).getD 60) else (-1))), (wrI (W8c E k (((s6_g u6), (s6_xa u6), (s6_ra u6), (s6_caz u6), (s6_ca u6), (s6_pq u6), (s6_fl u6), (if okM p1 ((s6_cy u6) 3) then 0 else 1)), g6_1 u6, g6_2 u6, g6_3 u6, g6_4 u6, g6_5 u6, g6_6 u6, g6_7 u6, g6_8 u6, g6_9 u6, g6_10 u6) (((s8_q u8), 0, 0, (-1), (s8_rr u8), (s8_z u8), (s8_nb u8), (s8_wa u8)), ((s8_wd u8), (allS ((s6_cy u6) 4)), (s8_al u8), (s8_wl u8), (xF (s6_mn u6) (fun c => (s6_ink u6) c - (fst_ (fun n => decide (¬ kpN (s6_cy u6) (s6_Fs u6) (s6_Ft u6) (s6_t u6) (bdN (s6_ink u6) (s6_mn u6) p1 n) = 0)) 60 0).getD 60) (s6_t u6) ((s6_dd u6) + (fst_ (fun n => decide (¬ kpN (s6_cy u6) (s6_Fs u6) (s6_Ft u6) (s6_t u6) (bdN (s6_ink u6) (s6_mn u6) p1 n) = 0)) 60 0).getD 60)), (s8_pp u8), (s8_pj8 u8), (lyF (s6_Fs u6) (s6_Ft u6) (s6_t u6) ((s6_cy u6) 4) (s8_ke u8) ((s6_cy u6) 5))), g8_2 u8, g8_3 u8, g8_4 u8)) (nI ((fst_ (fun n => decide (¬ kpN (s6_cy u6) (s6_Fs u6) (s6_Ft u6) (s6_t u6) (bdN (s6_ink u6) (s6_mn u6) p1 n) = 0)) 60 0).getD 60))), Ct.perm hp6.symm (Ct.frI (c_X6_freeIn l E x (s6_xa u6) (s6_g u6) (s6_tr u6) (s6_fl u6) (s6_pl u6) (s6_cy u6) (s6_ca u6) (s6_Fs u6) (s6_Ft u6) (s6_hi u6) (s6_hm u6) (s6_t u6) (s6_dd u6) (s6_ink u6) (s6_mn u6) p1 (by first | assumption | omega) (by first | assumption | omega) (by first | assumption | omega) (by first | assumption | omega) (by first | assumption | omega)) [0, 20, 26, 27, 36, 37, 38] rfl rfl rfl rfl), Ct.perm hp8.symm (Ct.frI (c_X8_freeIn l E k (s8_th u8) (s8_tr8 u8) (s8_wh u8) (s8_g8 u8) (s8_rr u8) (s8_q u8) (upN (upN (upN (upN (s8_z u8) 6 (s6_fd u6)) 12 (s6_fl u6)) 19 (s6_ac u6)) 20 (s6_im u6)) (s8_nb u8) (s8_wa u8) (s8_wd u8) (s8_ev u8) (s8_al u8) (s8_wl u8) (s6_cy u6) (s8_kp u8) (s8_nc u8) (s8_cb u8) (s8_gf u8) (s8_go_ u8) (s8_gt_ u8) (s8_xf u8) (s6_mn u6) (s6_ink u6) (s6_t u6) (s6_dd u6) (s6_Fs u6) (s6_Ft u6) (s8_ke u8) p1 (by first | assumption | omega) (by first | assumption | omega) (by first | assumption | omega) (by first | assumption | omega) (by first | assumption | omega) (by first | assumption | omega) (by first | assumption | omega) (by first | assumption | omega) (by first | assumption | omega) (by first | assumption | omega)) [0, 10, 13, 14, 15, 2, 3, 6] rfl rfl rfl rfl), fun r w h => ⟨_, h.2⟩, ?_⟩
      rintro r w r' w' ⟨rfl, rfl⟩ ⟨rfl, rfl⟩
      exact ⟨congrArg (fun z => some (Value.int z)) (if_pos hok), Or.inr ⟨(((s6_g u6), (s6_xa u6), (s6_ra u6), (s6_caz u6), (s6_ca u6), (s6_pq u6), (s6_fl u6), (if okM p1 ((s6_cy u6) 3) then 0 else 1)), g6_1 u6, g6_2 u6, g6_3 u6, g6_4 u6, g6_5 u6, g6_6 u6, g6_7 u6, g6_8 u6, g6_9 u6, g6_10 u6), (((s8_q u8), 0, 0, (-1), (s8_rr u8), (s8_z u8), (s8_nb u8), (s8_wa u8)), ((s8_wd u8), (allS ((s6_cy u6) 4)), (s8_al u8), (s8_wl u8), (xF (s6_mn u6) (fun c => (s6_ink u6) c - (fst_ (fun n => decide (¬ kpN (s6_cy u6) (s6_Fs u6) (s6_Ft u6) (s6_t u6) (bdN (s6_ink u6) (s6_mn u6) p1 n) = 0)) 60 0).getD 60) (s6_t u6) ((s6_dd u6) + (fst_ (fun n => decide (¬ kpN (s6_cy u6) (s6_Fs u6) (s6_Ft u6) (s6_t u6) (bdN (s6_ink u6) (s6_mn u6) p1 n) = 0)) 60 0).getD 60)), (s8_pp u8), (s8_pj8 u8), (lyF (s6_Fs u6) (s6_Ft u6) (s6_t u6) ((s6_cy u6) 4) (s8_ke u8) ((s6_cy u6) 5))), g8_2 u8, g8_3 u8, g8_4 u8), List.Perm.refl _, List.Perm.refl _, hF, hG, hP, tw_of 0 ((if_pos hok).symm) (by decide) (by decide)⟩⟩
    · refine ⟨(wrI (W6 E x (((s6_g u6), (s6_xa u6), (s6_ra u6), (s6_caz u6), (s6_ca u6), (s6_pq u6), (s6_fl u6), (if okM p1 ((s6_cy u6) 3) then 0 else 1)), g6_1 u6, g6_2 u6, g6_3 u6, g6_4 u6, g6_5 u6, g6_6 u6, g6_7 u6, g6_8 u6, g6_9 u6, g6_10 u6)) (if okM p1 ((s6_cy u6) 3) then nI ((fst_ (fun n => decide (¬ kpN (s6_cy u6) (s6_Fs u6) (s6_Ft u6) (s6_t u6) (bdN (s6_ink u6) (s6_mn u6) p1 n) = 0)) 60 0).getD 60) else (-1))), (wrI (W8c E k (((s6_g u6), (s6_xa u6), (s6_ra u6), (s6_caz u6), (s6_ca u6), (s6_pq u6), (s6_fl u6), (if okM p1 ((s6_cy u6) 3) then 0 else 1)), g6_1 u6, g6_2 u6, g6_3 u6, g6_4 u6, g6_5 u6, g6_6 u6, g6_7 u6, g6_8 u6, g6_9 u6, g6_10 u6) (((s8_q u8), 0, 1, (-1), (s8_rr u8), (s8_z u8), (s8_nb u8), (s8_wa u8)), g8_1 u8, g8_2 u8, g8_3 u8, g8_4 u8)) ((-1))), Ct.perm hp6.symm (Ct.frI (c_X6_freeIn l E x (s6_xa u6) (s6_g u6) (s6_tr u6) (s6_fl u6) (s6_pl u6) (s6_cy u6) (s6_ca u6) (s6_Fs u6) (s6_Ft u6) (s6_hi u6) (s6_hm u6) (s6_t u6) (s6_dd u6) (s6_ink u6) (s6_mn u6) p1 (by first | assumption | omega) (by first | assumption | omega) (by first | assumption | omega) (by first | assumption | omega) (by first | assumption | omega)) [0, 20, 26, 27, 36, 37, 38] rfl rfl rfl rfl), Ct.perm hp8.symm (Ct.frI (c_X8_freeIn_no l E k (s8_th u8) (s8_tr8 u8) (s8_wh u8) (s8_g8 u8) (s8_rr u8) (s8_q u8) (upN (upN (upN (upN (s8_z u8) 6 (s6_fd u6)) 12 (s6_fl u6)) 19 (s6_ac u6)) 20 (s6_im u6)) (s8_nb u8) (s8_wa u8) (s8_wd u8) (s8_ev u8) (s8_al u8) (s8_wl u8) (s6_cy u6) (s8_kp u8) (s8_nc u8) (s8_cb u8) p1 (by first | assumption | omega)) [0, 10] rfl rfl rfl rfl), fun r w h => ⟨_, h.2⟩, ?_⟩
      rintro r w r' w' ⟨rfl, rfl⟩ ⟨rfl, rfl⟩
      exact ⟨congrArg (fun z => some (Value.int z)) (if_neg hok), Or.inr ⟨(((s6_g u6), (s6_xa u6), (s6_ra u6), (s6_caz u6), (s6_ca u6), (s6_pq u6), (s6_fl u6), (if okM p1 ((s6_cy u6) 3) then 0 else 1)), g6_1 u6, g6_2 u6, g6_3 u6, g6_4 u6, g6_5 u6, g6_6 u6, g6_7 u6, g6_8 u6, g6_9 u6, g6_10 u6), (((s8_q u8), 0, 1, (-1), (s8_rr u8), (s8_z u8), (s8_nb u8), (s8_wa u8)), g8_1 u8, g8_2 u8, g8_3 u8, g8_4 u8), List.Perm.refl _, List.Perm.refl _, hF, hG, hP, tw_of 1 ((if_neg hok).symm) (by decide) (by decide)⟩⟩
set_option maxRecDepth 100000 in
set_option maxHeartbeats 4000000 in
theorem op_clearIn (l : Launch) (E : Et) (x k : Nat) (p1 : Int32) : OpI E x k (fun w P => Ct l E yX6_clearIn cX6_clearIn 3 (some .int) 6 0 0 [.ref x, .int p1] w P) (fun w P => Ct l E yX8_clearIn cX8_clearIn 3 (some .int) 5 0 0 [.ref k, .int p1] w P) := by
  intro w6 w8 hv
  rcases hv with hv | hv
  · obtain ⟨u6, u8, hp6, hp8, hF, hN, hW⟩ := hv
    have hfd := hF.1
    have hby := hF.2.1
    have hkw := hF.2.2.1
    have h40z := hF.2.2.2.1
    have h40 := hF.2.2.2.2.1
    have hink2 := hF.2.2.2.2.2.1
    have hwt := hF.2.2.2.2.2.2.1
    have hdy := hF.2.2.2.2.2.2.2.1
    have hds := hF.2.2.2.2.2.2.2.2.1
    have hink := hF.2.2.2.2.2.2.2.2.2.1
    have ht := hF.2.2.2.2.2.2.2.2.2.2.1
    have ho := hF.2.2.2.2.2.2.2.2.2.2.2.1
    have hac := hF.2.2.2.2.2.2.2.2.2.2.2.2.1
    have him := hF.2.2.2.2.2.2.2.2.2.2.2.2.2.1
    have hc0 := hF.2.2.2.2.2.2.2.2.2.2.2.2.2.2.1
    have hc1 := hF.2.2.2.2.2.2.2.2.2.2.2.2.2.2.2.1
    have hc2 := hF.2.2.2.2.2.2.2.2.2.2.2.2.2.2.2.2.1
    have hc3 := hF.2.2.2.2.2.2.2.2.2.2.2.2.2.2.2.2.2.1
    have hc4 := hF.2.2.2.2.2.2.2.2.2.2.2.2.2.2.2.2.2.2.1
    have hc5 := hF.2.2.2.2.2.2.2.2.2.2.2.2.2.2.2.2.2.2.2.1
    have hc6 := hF.2.2.2.2.2.2.2.2.2.2.2.2.2.2.2.2.2.2.2.2.1
    have hc7 := hF.2.2.2.2.2.2.2.2.2.2.2.2.2.2.2.2.2.2.2.2.2
    have htr := hW.1
    have htl := hW.2.1
    have hy0 := hN.1
    have hy3 : (s6_cy u6) 3 = 0 := hy0 3 (by decide)
    have hy4 : (s6_cy u6) 4 = 0 := hy0 4 (by decide)
    have hy5 : (s6_cy u6) 5 = 0 := hy0 5 (by decide)
    have hy6 : (s6_cy u6) 6 = 0 := hy0 6 (by decide)
    refine ⟨(wrI (W6 E x (((s6_g u6), (s6_xa u6), (s6_ra u6), (s6_caz u6), (s6_ca u6), (s6_pq u6), (s6_fl u6), (if okM p1 ((s6_cy u6) 3) then 0 else 1)), g6_1 u6, g6_2 u6, g6_3 u6, g6_4 u6, g6_5 u6, g6_6 u6, g6_7 u6, g6_8 u6, g6_9 u6, g6_10 u6)) (if okM p1 ((s6_cy u6) 3) then nI ((fst_ (fun n => decide (bdN (s6_ink u6) (s6_mn u6) p1 n = 0)) 60 0).getD 60) else (-1))), (wrI (W8n E k (((s6_g u6), (s6_xa u6), (s6_ra u6), (s6_caz u6), (s6_ca u6), (s6_pq u6), (s6_fl u6), (if okM p1 ((s6_cy u6) 3) then 0 else 1)), g6_1 u6, g6_2 u6, g6_3 u6, g6_4 u6, g6_5 u6, g6_6 u6, g6_7 u6, g6_8 u6, g6_9 u6, g6_10 u6) (((s8_q u8), 0, 1, (-1), (s8_rr u8), (s8_z u8), (s8_nb u8), (s8_wa u8)), g8_1 u8, g8_2 u8, g8_3 u8, g8_4 u8)) ((-1))), Ct.perm hp6.symm (Ct.frI (c_X6_clearIn l E x (s6_xa u6) (s6_g u6) (s6_tr u6) (s6_fl u6) (s6_pl u6) (s6_cy u6) (s6_ca u6) (s6_Fs u6) (s6_Ft u6) (s6_hi u6) (s6_hm u6) (s6_t u6) (s6_dd u6) (s6_ink u6) (s6_mn u6) p1 (by first | assumption | omega) (by first | assumption | omega) (by first | assumption | omega) (by first | assumption | omega) (by first | assumption | omega)) [0, 20, 26, 27, 36, 37, 38] rfl rfl rfl rfl), Ct.perm hp8.symm (Ct.frI (c_X8_clearIn_n l E k (s8_th u8) (s8_tr8 u8) (s8_wh u8) (s8_rr u8) (s8_q u8) (upN (upN (upN (upN (s8_z u8) 6 (s6_fd u6)) 12 (s6_fl u6)) 19 (s6_ac u6)) 20 (s6_im u6)) (s8_nb u8) (s8_wa u8) (s8_wd u8) (s8_ev u8) (s8_al u8) (s8_wl u8) p1 ) [0] rfl rfl rfl rfl), fun r w h => ⟨_, h.2⟩, ?_⟩
    rintro r w r' w' ⟨rfl, rfl⟩ ⟨rfl, rfl⟩
    exact ⟨congrArg (fun z => some (Value.int z)) (if_neg (okM_0 hy3)), Or.inl ⟨(((s6_g u6), (s6_xa u6), (s6_ra u6), (s6_caz u6), (s6_ca u6), (s6_pq u6), (s6_fl u6), (if okM p1 ((s6_cy u6) 3) then 0 else 1)), g6_1 u6, g6_2 u6, g6_3 u6, g6_4 u6, g6_5 u6, g6_6 u6, g6_7 u6, g6_8 u6, g6_9 u6, g6_10 u6), (((s8_q u8), 0, 1, (-1), (s8_rr u8), (s8_z u8), (s8_nb u8), (s8_wa u8)), g8_1 u8, g8_2 u8, g8_3 u8, g8_4 u8), List.Perm.refl _, List.Perm.refl _, hF, hN, tw_of 1 ((if_neg (okM_0 hy3)).symm) (by decide) (by decide)⟩⟩
  · obtain ⟨u6, u8, hp6, hp8, hF, hG, hP, hW⟩ := hv
    have hfd := hF.1
    have hby := hF.2.1
    have hkw := hF.2.2.1
    have h40z := hF.2.2.2.1
    have h40 := hF.2.2.2.2.1
    have hink2 := hF.2.2.2.2.2.1
    have hwt := hF.2.2.2.2.2.2.1
    have hdy := hF.2.2.2.2.2.2.2.1
    have hds := hF.2.2.2.2.2.2.2.2.1
    have hink := hF.2.2.2.2.2.2.2.2.2.1
    have ht := hF.2.2.2.2.2.2.2.2.2.2.1
    have ho := hF.2.2.2.2.2.2.2.2.2.2.2.1
    have hac := hF.2.2.2.2.2.2.2.2.2.2.2.2.1
    have him := hF.2.2.2.2.2.2.2.2.2.2.2.2.2.1
    have hc0 := hF.2.2.2.2.2.2.2.2.2.2.2.2.2.2.1
    have hc1 := hF.2.2.2.2.2.2.2.2.2.2.2.2.2.2.2.1
    have hc2 := hF.2.2.2.2.2.2.2.2.2.2.2.2.2.2.2.2.1
    have hc3 := hF.2.2.2.2.2.2.2.2.2.2.2.2.2.2.2.2.2.1
    have hc4 := hF.2.2.2.2.2.2.2.2.2.2.2.2.2.2.2.2.2.2.1
    have hc5 := hF.2.2.2.2.2.2.2.2.2.2.2.2.2.2.2.2.2.2.2.1
    have hc6 := hF.2.2.2.2.2.2.2.2.2.2.2.2.2.2.2.2.2.2.2.2.1
    have hc7 := hF.2.2.2.2.2.2.2.2.2.2.2.2.2.2.2.2.2.2.2.2.2
    have htr := hW.1
    have htl := hW.2.1
    have hgb := g8_b hc4 hc5 hc7 hG
    have hfo := hgb.1
    have hon := hgb.2.1
    have htw := hgb.2.2.1
    have hFs := hgb.2.2.2.1
    have hFt := hgb.2.2.2.2.1
    have hik := hgb.2.2.2.2.2.1
    have hun := hgb.2.2.2.2.2.2.1
    have hdi := hgb.2.2.2.2.2.2.2.1
    have hd2 := hgb.2.2.2.2.2.2.2.2.1
    have hd3 := hgb.2.2.2.2.2.2.2.2.2.1
    have hkp := hgb.2.2.2.2.2.2.2.2.2.2.1
    have hm1 := hgb.2.2.2.2.2.2.2.2.2.2.2.1
    have hal_ := hgb.2.2.2.2.2.2.2.2.2.2.2.2
    have hal := hal_ (s6_t u6)
    have hz : ∀ c, (s6_cy u6) 5 ≤ c → (s6_ink u6) c = 0 := hP.1.2.1
    have hmz : ∀ c, (s6_cy u6) 5 ≤ c → (s6_mn u6) c = -1 := hP.1.2.2.1
    have hdd9 : (s6_dd u6) ≤ 999 := hP.1.2.2.2.2
    have hw8 := w8_e hG
    have h30 : ¬ (s6_cy u6) 3 = 0 := by omega
    by_cases hok : okM p1 ((s6_cy u6) 3)
    · refine ⟨(wrI (W6 E x (((s6_g u6), (s6_xa u6), (s6_ra u6), (s6_caz u6), (s6_ca u6), (s6_pq u6), (s6_fl u6), (if okM p1 ((s6_cy u6) 3) then 0 else 1)), g6_1 u6, g6_2 u6, g6_3 u6, g6_4 u6, g6_5 u6, g6_6 u6, g6_7 u6, g6_8 u6, g6_9 u6, g6_10 u6)) (if okM p1 ((s6_cy u6) 3) then nI ((fst_ (fun n => decide (bdN (s6_ink u6) (s6_mn u6) p1 n = 0)) 60 0).getD 60) else (-1))), (wrI (W8c E k (((s6_g u6), (s6_xa u6), (s6_ra u6), (s6_caz u6), (s6_ca u6), (s6_pq u6), (s6_fl u6), (if okM p1 ((s6_cy u6) 3) then 0 else 1)), g6_1 u6, g6_2 u6, g6_3 u6, g6_4 u6, g6_5 u6, g6_6 u6, g6_7 u6, g6_8 u6, g6_9 u6, g6_10 u6) (((s8_q u8), 0, 0, (-1), (s8_rr u8), (s8_z u8), (s8_nb u8), (s8_wa u8)), ((s8_wd u8), (allS ((s6_cy u6) 4)), (s8_al u8), (s8_wl u8), (xF (s6_mn u6) (fun c => (s6_ink u6) c - (fst_ (fun n => decide (bdN (s6_ink u6) (s6_mn u6) p1 n = 0)) 60 0).getD 60) (s6_t u6) ((s6_dd u6) + (fst_ (fun n => decide (bdN (s6_ink u6) (s6_mn u6) p1 n = 0)) 60 0).getD 60)), (s8_pp u8), (s8_pj8 u8), (lyF (s6_Fs u6) (s6_Ft u6) (s6_t u6) ((s6_cy u6) 4) (s8_ke u8) ((s6_cy u6) 5))), g8_2 u8, g8_3 u8, g8_4 u8)) (nI ((fst_ (fun n => decide (bdN (s6_ink u6) (s6_mn u6) p1 n = 0)) 60 0).getD 60))), Ct.perm hp6.symm (Ct.frI (c_X6_clearIn l E x (s6_xa u6) (s6_g u6) (s6_tr u6) (s6_fl u6) (s6_pl u6) (s6_cy u6) (s6_ca u6) (s6_Fs u6) (s6_Ft u6) (s6_hi u6) (s6_hm u6) (s6_t u6) (s6_dd u6) (s6_ink u6) (s6_mn u6) p1 (by first | assumption | omega) (by first | assumption | omega) (by first | assumption | omega) (by first | assumption | omega) (by first | assumption | omega)) [0, 20, 26, 27, 36, 37, 38] rfl rfl rfl rfl), Ct.perm hp8.symm (Ct.frI (c_X8_clearIn l E k (s8_th u8) (s8_tr8 u8) (s8_wh u8) (s8_g8 u8) (s8_rr u8) (s8_q u8) (upN (upN (upN (upN (s8_z u8) 6 (s6_fd u6)) 12 (s6_fl u6)) 19 (s6_ac u6)) 20 (s6_im u6)) (s8_nb u8) (s8_wa u8) (s8_wd u8) (s8_ev u8) (s8_al u8) (s8_wl u8) (s6_cy u6) (s8_kp u8) (s8_nc u8) (s8_cb u8) (s8_gf u8) (s8_go_ u8) (s8_gt_ u8) (s8_xf u8) (s6_mn u6) (s6_ink u6) (s6_t u6) (s6_dd u6) (s6_Fs u6) (s6_Ft u6) (s8_ke u8) p1 (by first | assumption | omega) (by first | assumption | omega) (by first | assumption | omega) (by first | assumption | omega) (by first | assumption | omega) (by first | assumption | omega) (by first | assumption | omega) (by first | assumption | omega) (by first | assumption | omega) (by first | assumption | omega)) [0, 10, 13, 14, 15, 2, 3, 6] rfl rfl rfl rfl), fun r w h => ⟨_, h.2⟩, ?_⟩
      rintro r w r' w' ⟨rfl, rfl⟩ ⟨rfl, rfl⟩
      exact ⟨congrArg (fun z => some (Value.int z)) (if_pos hok), Or.inr ⟨(((s6_g u6), (s6_xa u6), (s6_ra u6), (s6_caz u6), (s6_ca u6), (s6_pq u6), (s6_fl u6), (if okM p1 ((s6_cy u6) 3) then 0 else 1)), g6_1 u6, g6_2 u6, g6_3 u6, g6_4 u6, g6_5 u6, g6_6 u6, g6_7 u6, g6_8 u6, g6_9 u6, g6_10 u6), (((s8_q u8), 0, 0, (-1), (s8_rr u8), (s8_z u8), (s8_nb u8), (s8_wa u8)), ((s8_wd u8), (allS ((s6_cy u6) 4)), (s8_al u8), (s8_wl u8), (xF (s6_mn u6) (fun c => (s6_ink u6) c - (fst_ (fun n => decide (bdN (s6_ink u6) (s6_mn u6) p1 n = 0)) 60 0).getD 60) (s6_t u6) ((s6_dd u6) + (fst_ (fun n => decide (bdN (s6_ink u6) (s6_mn u6) p1 n = 0)) 60 0).getD 60)), (s8_pp u8), (s8_pj8 u8), (lyF (s6_Fs u6) (s6_Ft u6) (s6_t u6) ((s6_cy u6) 4) (s8_ke u8) ((s6_cy u6) 5))), g8_2 u8, g8_3 u8, g8_4 u8), List.Perm.refl _, List.Perm.refl _, hF, hG, hP, tw_of 0 ((if_pos hok).symm) (by decide) (by decide)⟩⟩
    · refine ⟨(wrI (W6 E x (((s6_g u6), (s6_xa u6), (s6_ra u6), (s6_caz u6), (s6_ca u6), (s6_pq u6), (s6_fl u6), (if okM p1 ((s6_cy u6) 3) then 0 else 1)), g6_1 u6, g6_2 u6, g6_3 u6, g6_4 u6, g6_5 u6, g6_6 u6, g6_7 u6, g6_8 u6, g6_9 u6, g6_10 u6)) (if okM p1 ((s6_cy u6) 3) then nI ((fst_ (fun n => decide (bdN (s6_ink u6) (s6_mn u6) p1 n = 0)) 60 0).getD 60) else (-1))), (wrI (W8c E k (((s6_g u6), (s6_xa u6), (s6_ra u6), (s6_caz u6), (s6_ca u6), (s6_pq u6), (s6_fl u6), (if okM p1 ((s6_cy u6) 3) then 0 else 1)), g6_1 u6, g6_2 u6, g6_3 u6, g6_4 u6, g6_5 u6, g6_6 u6, g6_7 u6, g6_8 u6, g6_9 u6, g6_10 u6) (((s8_q u8), 0, 1, (-1), (s8_rr u8), (s8_z u8), (s8_nb u8), (s8_wa u8)), g8_1 u8, g8_2 u8, g8_3 u8, g8_4 u8)) ((-1))), Ct.perm hp6.symm (Ct.frI (c_X6_clearIn l E x (s6_xa u6) (s6_g u6) (s6_tr u6) (s6_fl u6) (s6_pl u6) (s6_cy u6) (s6_ca u6) (s6_Fs u6) (s6_Ft u6) (s6_hi u6) (s6_hm u6) (s6_t u6) (s6_dd u6) (s6_ink u6) (s6_mn u6) p1 (by first | assumption | omega) (by first | assumption | omega) (by first | assumption | omega) (by first | assumption | omega) (by first | assumption | omega)) [0, 20, 26, 27, 36, 37, 38] rfl rfl rfl rfl), Ct.perm hp8.symm (Ct.frI (c_X8_clearIn_no l E k (s8_th u8) (s8_tr8 u8) (s8_wh u8) (s8_g8 u8) (s8_rr u8) (s8_q u8) (upN (upN (upN (upN (s8_z u8) 6 (s6_fd u6)) 12 (s6_fl u6)) 19 (s6_ac u6)) 20 (s6_im u6)) (s8_nb u8) (s8_wa u8) (s8_wd u8) (s8_ev u8) (s8_al u8) (s8_wl u8) (s6_cy u6) (s8_kp u8) (s8_nc u8) (s8_cb u8) p1 (by first | assumption | omega)) [0, 10] rfl rfl rfl rfl), fun r w h => ⟨_, h.2⟩, ?_⟩
      rintro r w r' w' ⟨rfl, rfl⟩ ⟨rfl, rfl⟩
      exact ⟨congrArg (fun z => some (Value.int z)) (if_neg hok), Or.inr ⟨(((s6_g u6), (s6_xa u6), (s6_ra u6), (s6_caz u6), (s6_ca u6), (s6_pq u6), (s6_fl u6), (if okM p1 ((s6_cy u6) 3) then 0 else 1)), g6_1 u6, g6_2 u6, g6_3 u6, g6_4 u6, g6_5 u6, g6_6 u6, g6_7 u6, g6_8 u6, g6_9 u6, g6_10 u6), (((s8_q u8), 0, 1, (-1), (s8_rr u8), (s8_z u8), (s8_nb u8), (s8_wa u8)), g8_1 u8, g8_2 u8, g8_3 u8, g8_4 u8), List.Perm.refl _, List.Perm.refl _, hF, hG, hP, tw_of 1 ((if_neg hok).symm) (by decide) (by decide)⟩⟩
set_option maxRecDepth 100000 in
set_option maxHeartbeats 4000000 in
theorem op_freeOdds (l : Launch) (E : Et) (x k : Nat) (p1 : Int32) (b1 : Bool) : OpL E x k (fun w P => Ct l E yX6_freeOdds cX6_freeOdds 7 (some .long) 6 0 0 [.ref x, .int p1, .int (nI (b1).toNat)] w P) (fun w P => Ct l E yX8_freeOdds cX8_freeOdds 5 (some .long) 5 0 0 [.ref k, .int p1, .int (nI (b1).toNat)] w P) := by
  intro w6 w8 hv
  rcases hv with hv | hv
  · obtain ⟨u6, u8, hp6, hp8, hF, hN, hW⟩ := hv
    have hfd := hF.1
    have hby := hF.2.1
    have hkw := hF.2.2.1
    have h40z := hF.2.2.2.1
    have h40 := hF.2.2.2.2.1
    have hink2 := hF.2.2.2.2.2.1
    have hwt := hF.2.2.2.2.2.2.1
    have hdy := hF.2.2.2.2.2.2.2.1
    have hds := hF.2.2.2.2.2.2.2.2.1
    have hink := hF.2.2.2.2.2.2.2.2.2.1
    have ht := hF.2.2.2.2.2.2.2.2.2.2.1
    have ho := hF.2.2.2.2.2.2.2.2.2.2.2.1
    have hac := hF.2.2.2.2.2.2.2.2.2.2.2.2.1
    have him := hF.2.2.2.2.2.2.2.2.2.2.2.2.2.1
    have hc0 := hF.2.2.2.2.2.2.2.2.2.2.2.2.2.2.1
    have hc1 := hF.2.2.2.2.2.2.2.2.2.2.2.2.2.2.2.1
    have hc2 := hF.2.2.2.2.2.2.2.2.2.2.2.2.2.2.2.2.1
    have hc3 := hF.2.2.2.2.2.2.2.2.2.2.2.2.2.2.2.2.2.1
    have hc4 := hF.2.2.2.2.2.2.2.2.2.2.2.2.2.2.2.2.2.2.1
    have hc5 := hF.2.2.2.2.2.2.2.2.2.2.2.2.2.2.2.2.2.2.2.1
    have hc6 := hF.2.2.2.2.2.2.2.2.2.2.2.2.2.2.2.2.2.2.2.2.1
    have hc7 := hF.2.2.2.2.2.2.2.2.2.2.2.2.2.2.2.2.2.2.2.2.2
    have htr := hW.1
    have htl := hW.2.1
    have hy0 := hN.1
    have hy3 : (s6_cy u6) 3 = 0 := hy0 3 (by decide)
    have hy4 : (s6_cy u6) 4 = 0 := hy0 4 (by decide)
    have hy5 : (s6_cy u6) 5 = 0 := hy0 5 (by decide)
    have hy6 : (s6_cy u6) 6 = 0 := hy0 6 (by decide)
    refine ⟨(wrL (W6 E x (((s6_g u6), (s6_xa u6), (s6_ra u6), (s6_caz u6), (s6_ca u6), (s6_pq u6), (s6_fl u6), (if okM p1 ((s6_cy u6) 3) then 0 else 1)), g6_1 u6, g6_2 u6, g6_3 u6, g6_4 u6, g6_5 u6, g6_6 u6, g6_7 u6, g6_8 u6, g6_9 u6, g6_10 u6)) (if okM p1 ((s6_cy u6) 3) then lN (lowT (fb_sm (fun p => if decide (¬ kpN (s6_cy u6) (s6_Fs u6) (s6_Ft u6) (s6_t u6) p = 0) && decide (ndf p (bdN (s6_ink u6) (s6_mn u6) p1 0) = 0) then rwN ((s6_cy u6) 2) p (bdN (s6_ink u6) (s6_mn u6) p1 0) * 1 else 0) (bdN (s6_ink u6) (s6_mn u6) p1 0 + 1)) (100 ^ pop8 (bdN (s6_ink u6) (s6_mn u6) p1 0)) b1) else (-1))), (wrL (W8n E k (((s6_g u6), (s6_xa u6), (s6_ra u6), (s6_caz u6), (s6_ca u6), (s6_pq u6), (s6_fl u6), (if okM p1 ((s6_cy u6) 3) then 0 else 1)), g6_1 u6, g6_2 u6, g6_3 u6, g6_4 u6, g6_5 u6, g6_6 u6, g6_7 u6, g6_8 u6, g6_9 u6, g6_10 u6) (((s8_q u8), 0, 1, (-1), (s8_rr u8), (s8_z u8), (s8_nb u8), (s8_wa u8)), g8_1 u8, g8_2 u8, g8_3 u8, g8_4 u8)) ((-1))), Ct.perm hp6.symm (Ct.frL (c_X6_freeOdds l E x (s6_xa u6) (s6_g u6) (s6_tr u6) (s6_fl u6) (s6_pl u6) (s6_cy u6) (s6_ca u6) (s6_Fs u6) (s6_Ft u6) (s6_hi u6) (s6_hm u6) (s6_t u6) (s6_dd u6) (s6_ink u6) (s6_mn u6) p1 b1 (by first | assumption | omega) (by first | assumption | omega) (by first | assumption | omega) (by first | assumption | omega) (by first | assumption | omega) (by first | assumption | omega)) [0, 20, 26, 27, 36, 37, 38] rfl rfl rfl rfl), Ct.perm hp8.symm (Ct.frL (c_X8_freeOdds_n l E k (s8_th u8) (s8_tr8 u8) (s8_wh u8) (s8_rr u8) (s8_q u8) (upN (upN (upN (upN (s8_z u8) 6 (s6_fd u6)) 12 (s6_fl u6)) 19 (s6_ac u6)) 20 (s6_im u6)) (s8_nb u8) (s8_wa u8) (s8_wd u8) (s8_ev u8) (s8_al u8) (s8_wl u8) p1 b1 ) [0] rfl rfl rfl rfl), fun r w h => ⟨_, h.2⟩, ?_⟩
    rintro r w r' w' ⟨rfl, rfl⟩ ⟨rfl, rfl⟩
    exact ⟨congrArg (fun z => some (Value.long z)) (if_neg (okM_0 hy3)), Or.inl ⟨(((s6_g u6), (s6_xa u6), (s6_ra u6), (s6_caz u6), (s6_ca u6), (s6_pq u6), (s6_fl u6), (if okM p1 ((s6_cy u6) 3) then 0 else 1)), g6_1 u6, g6_2 u6, g6_3 u6, g6_4 u6, g6_5 u6, g6_6 u6, g6_7 u6, g6_8 u6, g6_9 u6, g6_10 u6), (((s8_q u8), 0, 1, (-1), (s8_rr u8), (s8_z u8), (s8_nb u8), (s8_wa u8)), g8_1 u8, g8_2 u8, g8_3 u8, g8_4 u8), List.Perm.refl _, List.Perm.refl _, hF, hN, tw_of 1 ((if_neg (okM_0 hy3)).symm) (by decide) (by decide)⟩⟩
  · obtain ⟨u6, u8, hp6, hp8, hF, hG, hP, hW⟩ := hv
    have hfd := hF.1
    have hby := hF.2.1
    have hkw := hF.2.2.1
    have h40z := hF.2.2.2.1
    have h40 := hF.2.2.2.2.1
    have hink2 := hF.2.2.2.2.2.1
    have hwt := hF.2.2.2.2.2.2.1
    have hdy := hF.2.2.2.2.2.2.2.1
    have hds := hF.2.2.2.2.2.2.2.2.1
    have hink := hF.2.2.2.2.2.2.2.2.2.1
    have ht := hF.2.2.2.2.2.2.2.2.2.2.1
    have ho := hF.2.2.2.2.2.2.2.2.2.2.2.1
    have hac := hF.2.2.2.2.2.2.2.2.2.2.2.2.1
    have him := hF.2.2.2.2.2.2.2.2.2.2.2.2.2.1
    have hc0 := hF.2.2.2.2.2.2.2.2.2.2.2.2.2.2.1
    have hc1 := hF.2.2.2.2.2.2.2.2.2.2.2.2.2.2.2.1
    have hc2 := hF.2.2.2.2.2.2.2.2.2.2.2.2.2.2.2.2.1
    have hc3 := hF.2.2.2.2.2.2.2.2.2.2.2.2.2.2.2.2.2.1
    have hc4 := hF.2.2.2.2.2.2.2.2.2.2.2.2.2.2.2.2.2.2.1
    have hc5 := hF.2.2.2.2.2.2.2.2.2.2.2.2.2.2.2.2.2.2.2.1
    have hc6 := hF.2.2.2.2.2.2.2.2.2.2.2.2.2.2.2.2.2.2.2.2.1
    have hc7 := hF.2.2.2.2.2.2.2.2.2.2.2.2.2.2.2.2.2.2.2.2.2
    have htr := hW.1
    have htl := hW.2.1
    have hgb := g8_b hc4 hc5 hc7 hG
    have hfo := hgb.1
    have hon := hgb.2.1
    have htw := hgb.2.2.1
    have hFs := hgb.2.2.2.1
    have hFt := hgb.2.2.2.2.1
    have hik := hgb.2.2.2.2.2.1
    have hun := hgb.2.2.2.2.2.2.1
    have hdi := hgb.2.2.2.2.2.2.2.1
    have hd2 := hgb.2.2.2.2.2.2.2.2.1
    have hd3 := hgb.2.2.2.2.2.2.2.2.2.1
    have hkp := hgb.2.2.2.2.2.2.2.2.2.2.1
    have hm1 := hgb.2.2.2.2.2.2.2.2.2.2.2.1
    have hal_ := hgb.2.2.2.2.2.2.2.2.2.2.2.2
    have hal := hal_ (s6_t u6)
    have hz : ∀ c, (s6_cy u6) 5 ≤ c → (s6_ink u6) c = 0 := hP.1.2.1
    have hmz : ∀ c, (s6_cy u6) 5 ≤ c → (s6_mn u6) c = -1 := hP.1.2.2.1
    have hdd9 : (s6_dd u6) ≤ 999 := hP.1.2.2.2.2
    have hw8 := w8_e hG
    have h30 : ¬ (s6_cy u6) 3 = 0 := by omega
    by_cases hok : okM p1 ((s6_cy u6) 3)
    · refine ⟨(wrL (W6 E x (((s6_g u6), (s6_xa u6), (s6_ra u6), (s6_caz u6), (s6_ca u6), (s6_pq u6), (s6_fl u6), (if okM p1 ((s6_cy u6) 3) then 0 else 1)), g6_1 u6, g6_2 u6, g6_3 u6, g6_4 u6, g6_5 u6, g6_6 u6, g6_7 u6, g6_8 u6, g6_9 u6, g6_10 u6)) (if okM p1 ((s6_cy u6) 3) then lN (lowT (fb_sm (fun p => if decide (¬ kpN (s6_cy u6) (s6_Fs u6) (s6_Ft u6) (s6_t u6) p = 0) && decide (ndf p (bdN (s6_ink u6) (s6_mn u6) p1 0) = 0) then rwN ((s6_cy u6) 2) p (bdN (s6_ink u6) (s6_mn u6) p1 0) * 1 else 0) (bdN (s6_ink u6) (s6_mn u6) p1 0 + 1)) (100 ^ pop8 (bdN (s6_ink u6) (s6_mn u6) p1 0)) b1) else (-1))), (wrL (W8c E k (((s6_g u6), (s6_xa u6), (s6_ra u6), (s6_caz u6), (s6_ca u6), (s6_pq u6), (s6_fl u6), (if okM p1 ((s6_cy u6) 3) then 0 else 1)), g6_1 u6, g6_2 u6, g6_3 u6, g6_4 u6, g6_5 u6, g6_6 u6, g6_7 u6, g6_8 u6, g6_9 u6, g6_10 u6) (((s8_q u8), 0, 0, (-1), (s8_rr u8), (s8_z u8), (s8_nb u8), (s8_wa u8)), ((s8_wd u8), (allS ((s6_cy u6) 4)), (s8_al u8), (lN (100 ^ pop8 (bdN (s6_ink u6) (s6_mn u6) p1 0))), (xF (s6_mn u6) (s6_ink u6) (s6_t u6) (s6_dd u6)), (s8_pp u8), (s8_pj8 u8), (lyF (s6_Fs u6) (s6_Ft u6) (s6_t u6) ((s6_cy u6) 4) (s8_ke u8) ((s6_cy u6) 5))), g8_2 u8, g8_3 u8, g8_4 u8)) (lN (lowT (fb_sm (fun p => if decide (¬ kpN (s6_cy u6) (s6_Fs u6) (s6_Ft u6) (s6_t u6) p = 0) && decide (ndf p (bdN (s6_ink u6) (s6_mn u6) p1 0) = 0) then rwN ((s6_cy u6) 2) p (bdN (s6_ink u6) (s6_mn u6) p1 0) * 1 else 0) (bdN (s6_ink u6) (s6_mn u6) p1 0 + 1)) (100 ^ pop8 (bdN (s6_ink u6) (s6_mn u6) p1 0)) b1))), Ct.perm hp6.symm (Ct.frL (c_X6_freeOdds l E x (s6_xa u6) (s6_g u6) (s6_tr u6) (s6_fl u6) (s6_pl u6) (s6_cy u6) (s6_ca u6) (s6_Fs u6) (s6_Ft u6) (s6_hi u6) (s6_hm u6) (s6_t u6) (s6_dd u6) (s6_ink u6) (s6_mn u6) p1 b1 (by first | assumption | omega) (by first | assumption | omega) (by first | assumption | omega) (by first | assumption | omega) (by first | assumption | omega) (by first | assumption | omega)) [0, 20, 26, 27, 36, 37, 38] rfl rfl rfl rfl), Ct.perm hp8.symm (Ct.frL (c_X8_freeOdds l E k (s8_th u8) (s8_tr8 u8) (s8_wh u8) (s8_g8 u8) (s8_rr u8) (s8_q u8) (upN (upN (upN (upN (s8_z u8) 6 (s6_fd u6)) 12 (s6_fl u6)) 19 (s6_ac u6)) 20 (s6_im u6)) (s8_nb u8) (s8_wa u8) (s8_wd u8) (s8_ev u8) (s8_al u8) (s8_wl u8) (s6_cy u6) (s8_kp u8) (s8_nc u8) (s8_cb u8) (s8_gf u8) (s8_go_ u8) (s8_gt_ u8) (s8_xf u8) (s6_mn u6) (s6_ink u6) (s6_t u6) (s6_dd u6) (s6_Fs u6) (s6_Ft u6) (s8_ke u8) p1 b1 (by first | assumption | omega) (by first | assumption | omega) (by first | assumption | omega) (by first | assumption | omega) (by first | assumption | omega) (by first | assumption | omega) (by first | assumption | omega) (by first | assumption | omega) (by first | assumption | omega) (by first | assumption | omega) (by first | assumption | omega)) [0, 10, 13, 14, 15, 2, 3, 6] rfl rfl rfl rfl), fun r w h => ⟨_, h.2⟩, ?_⟩
      rintro r w r' w' ⟨rfl, rfl⟩ ⟨rfl, rfl⟩
      exact ⟨congrArg (fun z => some (Value.long z)) (if_pos hok), Or.inr ⟨(((s6_g u6), (s6_xa u6), (s6_ra u6), (s6_caz u6), (s6_ca u6), (s6_pq u6), (s6_fl u6), (if okM p1 ((s6_cy u6) 3) then 0 else 1)), g6_1 u6, g6_2 u6, g6_3 u6, g6_4 u6, g6_5 u6, g6_6 u6, g6_7 u6, g6_8 u6, g6_9 u6, g6_10 u6), (((s8_q u8), 0, 0, (-1), (s8_rr u8), (s8_z u8), (s8_nb u8), (s8_wa u8)), ((s8_wd u8), (allS ((s6_cy u6) 4)), (s8_al u8), (lN (100 ^ pop8 (bdN (s6_ink u6) (s6_mn u6) p1 0))), (xF (s6_mn u6) (s6_ink u6) (s6_t u6) (s6_dd u6)), (s8_pp u8), (s8_pj8 u8), (lyF (s6_Fs u6) (s6_Ft u6) (s6_t u6) ((s6_cy u6) 4) (s8_ke u8) ((s6_cy u6) 5))), g8_2 u8, g8_3 u8, g8_4 u8), List.Perm.refl _, List.Perm.refl _, hF, hG, hP, tw_of 0 ((if_pos hok).symm) (by decide) (by decide)⟩⟩
    · refine ⟨(wrL (W6 E x (((s6_g u6), (s6_xa u6), (s6_ra u6), (s6_caz u6), (s6_ca u6), (s6_pq u6), (s6_fl u6), (if okM p1 ((s6_cy u6) 3) then 0 else 1)), g6_1 u6, g6_2 u6, g6_3 u6, g6_4 u6, g6_5 u6, g6_6 u6, g6_7 u6, g6_8 u6, g6_9 u6, g6_10 u6)) (if okM p1 ((s6_cy u6) 3) then lN (lowT (fb_sm (fun p => if decide (¬ kpN (s6_cy u6) (s6_Fs u6) (s6_Ft u6) (s6_t u6) p = 0) && decide (ndf p (bdN (s6_ink u6) (s6_mn u6) p1 0) = 0) then rwN ((s6_cy u6) 2) p (bdN (s6_ink u6) (s6_mn u6) p1 0) * 1 else 0) (bdN (s6_ink u6) (s6_mn u6) p1 0 + 1)) (100 ^ pop8 (bdN (s6_ink u6) (s6_mn u6) p1 0)) b1) else (-1))), (wrL (W8c E k (((s6_g u6), (s6_xa u6), (s6_ra u6), (s6_caz u6), (s6_ca u6), (s6_pq u6), (s6_fl u6), (if okM p1 ((s6_cy u6) 3) then 0 else 1)), g6_1 u6, g6_2 u6, g6_3 u6, g6_4 u6, g6_5 u6, g6_6 u6, g6_7 u6, g6_8 u6, g6_9 u6, g6_10 u6) (((s8_q u8), 0, 1, (-1), (s8_rr u8), (s8_z u8), (s8_nb u8), (s8_wa u8)), g8_1 u8, g8_2 u8, g8_3 u8, g8_4 u8)) ((-1))), Ct.perm hp6.symm (Ct.frL (c_X6_freeOdds l E x (s6_xa u6) (s6_g u6) (s6_tr u6) (s6_fl u6) (s6_pl u6) (s6_cy u6) (s6_ca u6) (s6_Fs u6) (s6_Ft u6) (s6_hi u6) (s6_hm u6) (s6_t u6) (s6_dd u6) (s6_ink u6) (s6_mn u6) p1 b1 (by first | assumption | omega) (by first | assumption | omega) (by first | assumption | omega) (by first | assumption | omega) (by first | assumption | omega) (by first | assumption | omega)) [0, 20, 26, 27, 36, 37, 38] rfl rfl rfl rfl), Ct.perm hp8.symm (Ct.frL (c_X8_freeOdds_no l E k (s8_th u8) (s8_tr8 u8) (s8_wh u8) (s8_g8 u8) (s8_rr u8) (s8_q u8) (upN (upN (upN (upN (s8_z u8) 6 (s6_fd u6)) 12 (s6_fl u6)) 19 (s6_ac u6)) 20 (s6_im u6)) (s8_nb u8) (s8_wa u8) (s8_wd u8) (s8_ev u8) (s8_al u8) (s8_wl u8) (s6_cy u6) (s8_kp u8) (s8_nc u8) (s8_cb u8) p1 b1 (by first | assumption | omega)) [0, 10] rfl rfl rfl rfl), fun r w h => ⟨_, h.2⟩, ?_⟩
      rintro r w r' w' ⟨rfl, rfl⟩ ⟨rfl, rfl⟩
      exact ⟨congrArg (fun z => some (Value.long z)) (if_neg hok), Or.inr ⟨(((s6_g u6), (s6_xa u6), (s6_ra u6), (s6_caz u6), (s6_ca u6), (s6_pq u6), (s6_fl u6), (if okM p1 ((s6_cy u6) 3) then 0 else 1)), g6_1 u6, g6_2 u6, g6_3 u6, g6_4 u6, g6_5 u6, g6_6 u6, g6_7 u6, g6_8 u6, g6_9 u6, g6_10 u6), (((s8_q u8), 0, 1, (-1), (s8_rr u8), (s8_z u8), (s8_nb u8), (s8_wa u8)), g8_1 u8, g8_2 u8, g8_3 u8, g8_4 u8), List.Perm.refl _, List.Perm.refl _, hF, hG, hP, tw_of 1 ((if_neg hok).symm) (by decide) (by decide)⟩⟩
set_option maxRecDepth 100000 in
set_option maxHeartbeats 4000000 in
theorem op_mean (l : Launch) (E : Et) (x k : Nat) (p1 : Int32) (b1 : Bool) : OpL E x k (fun w P => Ct l E yX6_mean cX6_mean 7 (some .long) 6 0 0 [.ref x, .int p1, .int (nI (b1).toNat)] w P) (fun w P => Ct l E yX8_mean cX8_mean 5 (some .long) 5 0 0 [.ref k, .int p1, .int (nI (b1).toNat)] w P) := by
  intro w6 w8 hv
  rcases hv with hv | hv
  · obtain ⟨u6, u8, hp6, hp8, hF, hN, hW⟩ := hv
    have hfd := hF.1
    have hby := hF.2.1
    have hkw := hF.2.2.1
    have h40z := hF.2.2.2.1
    have h40 := hF.2.2.2.2.1
    have hink2 := hF.2.2.2.2.2.1
    have hwt := hF.2.2.2.2.2.2.1
    have hdy := hF.2.2.2.2.2.2.2.1
    have hds := hF.2.2.2.2.2.2.2.2.1
    have hink := hF.2.2.2.2.2.2.2.2.2.1
    have ht := hF.2.2.2.2.2.2.2.2.2.2.1
    have ho := hF.2.2.2.2.2.2.2.2.2.2.2.1
    have hac := hF.2.2.2.2.2.2.2.2.2.2.2.2.1
    have him := hF.2.2.2.2.2.2.2.2.2.2.2.2.2.1
    have hc0 := hF.2.2.2.2.2.2.2.2.2.2.2.2.2.2.1
    have hc1 := hF.2.2.2.2.2.2.2.2.2.2.2.2.2.2.2.1
    have hc2 := hF.2.2.2.2.2.2.2.2.2.2.2.2.2.2.2.2.1
    have hc3 := hF.2.2.2.2.2.2.2.2.2.2.2.2.2.2.2.2.2.1
    have hc4 := hF.2.2.2.2.2.2.2.2.2.2.2.2.2.2.2.2.2.2.1
    have hc5 := hF.2.2.2.2.2.2.2.2.2.2.2.2.2.2.2.2.2.2.2.1
    have hc6 := hF.2.2.2.2.2.2.2.2.2.2.2.2.2.2.2.2.2.2.2.2.1
    have hc7 := hF.2.2.2.2.2.2.2.2.2.2.2.2.2.2.2.2.2.2.2.2.2
    have htr := hW.1
    have htl := hW.2.1
    have hy0 := hN.1
    have hy3 : (s6_cy u6) 3 = 0 := hy0 3 (by decide)
    have hy4 : (s6_cy u6) 4 = 0 := hy0 4 (by decide)
    have hy5 : (s6_cy u6) 5 = 0 := hy0 5 (by decide)
    have hy6 : (s6_cy u6) 6 = 0 := hy0 6 (by decide)
    refine ⟨(wrL (W6 E x (((s6_g u6), (s6_xa u6), (s6_ra u6), (s6_caz u6), (s6_ca u6), (s6_pq u6), (s6_fl u6), (if okM p1 ((s6_cy u6) 3) then 0 else 1)), g6_1 u6, g6_2 u6, g6_3 u6, g6_4 u6, g6_5 u6, g6_6 u6, g6_7 u6, g6_8 u6, g6_9 u6, g6_10 u6)) (if okM p1 ((s6_cy u6) 3) then lN (lowT (fb_sm (fun p => if true && decide (ndf p (bdN (s6_ink u6) (s6_mn u6) p1 0) = 0) then rwN ((s6_cy u6) 2) p (bdN (s6_ink u6) (s6_mn u6) p1 0) * pop64 (kpN (s6_cy u6) (s6_Fs u6) (s6_Ft u6) (s6_t u6) p) else 0) (bdN (s6_ink u6) (s6_mn u6) p1 0 + 1)) (100 ^ pop8 (bdN (s6_ink u6) (s6_mn u6) p1 0)) b1) else (-1))), (wrL (W8n E k (((s6_g u6), (s6_xa u6), (s6_ra u6), (s6_caz u6), (s6_ca u6), (s6_pq u6), (s6_fl u6), (if okM p1 ((s6_cy u6) 3) then 0 else 1)), g6_1 u6, g6_2 u6, g6_3 u6, g6_4 u6, g6_5 u6, g6_6 u6, g6_7 u6, g6_8 u6, g6_9 u6, g6_10 u6) (((s8_q u8), 0, 1, (-1), (s8_rr u8), (s8_z u8), (s8_nb u8), (s8_wa u8)), g8_1 u8, g8_2 u8, g8_3 u8, g8_4 u8)) ((-1))), Ct.perm hp6.symm (Ct.frL (c_X6_mean l E x (s6_xa u6) (s6_g u6) (s6_tr u6) (s6_fl u6) (s6_pl u6) (s6_cy u6) (s6_ca u6) (s6_Fs u6) (s6_Ft u6) (s6_hi u6) (s6_hm u6) (s6_t u6) (s6_dd u6) (s6_ink u6) (s6_mn u6) p1 b1 (by first | assumption | omega) (by first | assumption | omega) (by first | assumption | omega) (by first | assumption | omega) (by first | assumption | omega) (by first | assumption | omega)) [0, 20, 26, 27, 36, 37, 38] rfl rfl rfl rfl), Ct.perm hp8.symm (Ct.frL (c_X8_mean_n l E k (s8_th u8) (s8_tr8 u8) (s8_wh u8) (s8_rr u8) (s8_q u8) (upN (upN (upN (upN (s8_z u8) 6 (s6_fd u6)) 12 (s6_fl u6)) 19 (s6_ac u6)) 20 (s6_im u6)) (s8_nb u8) (s8_wa u8) (s8_wd u8) (s8_ev u8) (s8_al u8) (s8_wl u8) p1 b1 ) [0] rfl rfl rfl rfl), fun r w h => ⟨_, h.2⟩, ?_⟩
    rintro r w r' w' ⟨rfl, rfl⟩ ⟨rfl, rfl⟩
    exact ⟨congrArg (fun z => some (Value.long z)) (if_neg (okM_0 hy3)), Or.inl ⟨(((s6_g u6), (s6_xa u6), (s6_ra u6), (s6_caz u6), (s6_ca u6), (s6_pq u6), (s6_fl u6), (if okM p1 ((s6_cy u6) 3) then 0 else 1)), g6_1 u6, g6_2 u6, g6_3 u6, g6_4 u6, g6_5 u6, g6_6 u6, g6_7 u6, g6_8 u6, g6_9 u6, g6_10 u6), (((s8_q u8), 0, 1, (-1), (s8_rr u8), (s8_z u8), (s8_nb u8), (s8_wa u8)), g8_1 u8, g8_2 u8, g8_3 u8, g8_4 u8), List.Perm.refl _, List.Perm.refl _, hF, hN, tw_of 1 ((if_neg (okM_0 hy3)).symm) (by decide) (by decide)⟩⟩
  · obtain ⟨u6, u8, hp6, hp8, hF, hG, hP, hW⟩ := hv
    have hfd := hF.1
    have hby := hF.2.1
    have hkw := hF.2.2.1
    have h40z := hF.2.2.2.1
    have h40 := hF.2.2.2.2.1
    have hink2 := hF.2.2.2.2.2.1
    have hwt := hF.2.2.2.2.2.2.1
    have hdy := hF.2.2.2.2.2.2.2.1
    have hds := hF.2.2.2.2.2.2.2.2.1
    have hink := hF.2.2.2.2.2.2.2.2.2.1
    have ht := hF.2.2.2.2.2.2.2.2.2.2.1
    have ho := hF.2.2.2.2.2.2.2.2.2.2.2.1
    have hac := hF.2.2.2.2.2.2.2.2.2.2.2.2.1
    have him := hF.2.2.2.2.2.2.2.2.2.2.2.2.2.1
    have hc0 := hF.2.2.2.2.2.2.2.2.2.2.2.2.2.2.1
    have hc1 := hF.2.2.2.2.2.2.2.2.2.2.2.2.2.2.2.1
    have hc2 := hF.2.2.2.2.2.2.2.2.2.2.2.2.2.2.2.2.1
    have hc3 := hF.2.2.2.2.2.2.2.2.2.2.2.2.2.2.2.2.2.1
    have hc4 := hF.2.2.2.2.2.2.2.2.2.2.2.2.2.2.2.2.2.2.1
    have hc5 := hF.2.2.2.2.2.2.2.2.2.2.2.2.2.2.2.2.2.2.2.1
    have hc6 := hF.2.2.2.2.2.2.2.2.2.2.2.2.2.2.2.2.2.2.2.2.1
    have hc7 := hF.2.2.2.2.2.2.2.2.2.2.2.2.2.2.2.2.2.2.2.2.2
    have htr := hW.1
    have htl := hW.2.1
    have hgb := g8_b hc4 hc5 hc7 hG
    have hfo := hgb.1
    have hon := hgb.2.1
    have htw := hgb.2.2.1
    have hFs := hgb.2.2.2.1
    have hFt := hgb.2.2.2.2.1
    have hik := hgb.2.2.2.2.2.1
    have hun := hgb.2.2.2.2.2.2.1
    have hdi := hgb.2.2.2.2.2.2.2.1
    have hd2 := hgb.2.2.2.2.2.2.2.2.1
    have hd3 := hgb.2.2.2.2.2.2.2.2.2.1
    have hkp := hgb.2.2.2.2.2.2.2.2.2.2.1
    have hm1 := hgb.2.2.2.2.2.2.2.2.2.2.2.1
    have hal_ := hgb.2.2.2.2.2.2.2.2.2.2.2.2
    have hal := hal_ (s6_t u6)
    have hz : ∀ c, (s6_cy u6) 5 ≤ c → (s6_ink u6) c = 0 := hP.1.2.1
    have hmz : ∀ c, (s6_cy u6) 5 ≤ c → (s6_mn u6) c = -1 := hP.1.2.2.1
    have hdd9 : (s6_dd u6) ≤ 999 := hP.1.2.2.2.2
    have hw8 := w8_e hG
    have h30 : ¬ (s6_cy u6) 3 = 0 := by omega
    by_cases hok : okM p1 ((s6_cy u6) 3)
    · refine ⟨(wrL (W6 E x (((s6_g u6), (s6_xa u6), (s6_ra u6), (s6_caz u6), (s6_ca u6), (s6_pq u6), (s6_fl u6), (if okM p1 ((s6_cy u6) 3) then 0 else 1)), g6_1 u6, g6_2 u6, g6_3 u6, g6_4 u6, g6_5 u6, g6_6 u6, g6_7 u6, g6_8 u6, g6_9 u6, g6_10 u6)) (if okM p1 ((s6_cy u6) 3) then lN (lowT (fb_sm (fun p => if true && decide (ndf p (bdN (s6_ink u6) (s6_mn u6) p1 0) = 0) then rwN ((s6_cy u6) 2) p (bdN (s6_ink u6) (s6_mn u6) p1 0) * pop64 (kpN (s6_cy u6) (s6_Fs u6) (s6_Ft u6) (s6_t u6) p) else 0) (bdN (s6_ink u6) (s6_mn u6) p1 0 + 1)) (100 ^ pop8 (bdN (s6_ink u6) (s6_mn u6) p1 0)) b1) else (-1))), (wrL (W8c E k (((s6_g u6), (s6_xa u6), (s6_ra u6), (s6_caz u6), (s6_ca u6), (s6_pq u6), (s6_fl u6), (if okM p1 ((s6_cy u6) 3) then 0 else 1)), g6_1 u6, g6_2 u6, g6_3 u6, g6_4 u6, g6_5 u6, g6_6 u6, g6_7 u6, g6_8 u6, g6_9 u6, g6_10 u6) (((s8_q u8), 0, 0, (-1), (s8_rr u8), (s8_z u8), (s8_nb u8), (s8_wa u8)), ((s8_wd u8), (allS ((s6_cy u6) 4)), (s8_al u8), (lN (100 ^ pop8 (bdN (s6_ink u6) (s6_mn u6) p1 0))), (xF (s6_mn u6) (s6_ink u6) (s6_t u6) (s6_dd u6)), (s8_pp u8), (s8_pj8 u8), (lyF (s6_Fs u6) (s6_Ft u6) (s6_t u6) ((s6_cy u6) 4) (s8_ke u8) ((s6_cy u6) 5))), g8_2 u8, g8_3 u8, g8_4 u8)) (lN (lowT (fb_sm (fun p => if true && decide (ndf p (bdN (s6_ink u6) (s6_mn u6) p1 0) = 0) then rwN ((s6_cy u6) 2) p (bdN (s6_ink u6) (s6_mn u6) p1 0) * pop64 (kpN (s6_cy u6) (s6_Fs u6) (s6_Ft u6) (s6_t u6) p) else 0) (bdN (s6_ink u6) (s6_mn u6) p1 0 + 1)) (100 ^ pop8 (bdN (s6_ink u6) (s6_mn u6) p1 0)) b1))), Ct.perm hp6.symm (Ct.frL (c_X6_mean l E x (s6_xa u6) (s6_g u6) (s6_tr u6) (s6_fl u6) (s6_pl u6) (s6_cy u6) (s6_ca u6) (s6_Fs u6) (s6_Ft u6) (s6_hi u6) (s6_hm u6) (s6_t u6) (s6_dd u6) (s6_ink u6) (s6_mn u6) p1 b1 (by first | assumption | omega) (by first | assumption | omega) (by first | assumption | omega) (by first | assumption | omega) (by first | assumption | omega) (by first | assumption | omega)) [0, 20, 26, 27, 36, 37, 38] rfl rfl rfl rfl), Ct.perm hp8.symm (Ct.frL (c_X8_mean l E k (s8_th u8) (s8_tr8 u8) (s8_wh u8) (s8_g8 u8) (s8_rr u8) (s8_q u8) (upN (upN (upN (upN (s8_z u8) 6 (s6_fd u6)) 12 (s6_fl u6)) 19 (s6_ac u6)) 20 (s6_im u6)) (s8_nb u8) (s8_wa u8) (s8_wd u8) (s8_ev u8) (s8_al u8) (s8_wl u8) (s6_cy u6) (s8_kp u8) (s8_nc u8) (s8_cb u8) (s8_gf u8) (s8_go_ u8) (s8_gt_ u8) (s8_xf u8) (s6_mn u6) (s6_ink u6) (s6_t u6) (s6_dd u6) (s6_Fs u6) (s6_Ft u6) (s8_ke u8) p1 b1 (by first | assumption | omega) (by first | assumption | omega) (by first | assumption | omega) (by first | assumption | omega) (by first | assumption | omega) (by first | assumption | omega) (by first | assumption | omega) (by first | assumption | omega) (by first | assumption | omega) (by first | assumption | omega) (by first | assumption | omega)) [0, 10, 13, 14, 15, 2, 3, 6] rfl rfl rfl rfl), fun r w h => ⟨_, h.2⟩, ?_⟩
      rintro r w r' w' ⟨rfl, rfl⟩ ⟨rfl, rfl⟩
      exact ⟨congrArg (fun z => some (Value.long z)) (if_pos hok), Or.inr ⟨(((s6_g u6), (s6_xa u6), (s6_ra u6), (s6_caz u6), (s6_ca u6), (s6_pq u6), (s6_fl u6), (if okM p1 ((s6_cy u6) 3) then 0 else 1)), g6_1 u6, g6_2 u6, g6_3 u6, g6_4 u6, g6_5 u6, g6_6 u6, g6_7 u6, g6_8 u6, g6_9 u6, g6_10 u6), (((s8_q u8), 0, 0, (-1), (s8_rr u8), (s8_z u8), (s8_nb u8), (s8_wa u8)), ((s8_wd u8), (allS ((s6_cy u6) 4)), (s8_al u8), (lN (100 ^ pop8 (bdN (s6_ink u6) (s6_mn u6) p1 0))), (xF (s6_mn u6) (s6_ink u6) (s6_t u6) (s6_dd u6)), (s8_pp u8), (s8_pj8 u8), (lyF (s6_Fs u6) (s6_Ft u6) (s6_t u6) ((s6_cy u6) 4) (s8_ke u8) ((s6_cy u6) 5))), g8_2 u8, g8_3 u8, g8_4 u8), List.Perm.refl _, List.Perm.refl _, hF, hG, hP, tw_of 0 ((if_pos hok).symm) (by decide) (by decide)⟩⟩
    · refine ⟨(wrL (W6 E x (((s6_g u6), (s6_xa u6), (s6_ra u6), (s6_caz u6), (s6_ca u6), (s6_pq u6), (s6_fl u6), (if okM p1 ((s6_cy u6) 3) then 0 else 1)), g6_1 u6, g6_2 u6, g6_3 u6, g6_4 u6, g6_5 u6, g6_6 u6, g6_7 u6, g6_8 u6, g6_9 u6, g6_10 u6)) (if okM p1 ((s6_cy u6) 3) then lN (lowT (fb_sm (fun p => if true && decide (ndf p (bdN (s6_ink u6) (s6_mn u6) p1 0) = 0) then rwN ((s6_cy u6) 2) p (bdN (s6_ink u6) (s6_mn u6) p1 0) * pop64 (kpN (s6_cy u6) (s6_Fs u6) (s6_Ft u6) (s6_t u6) p) else 0) (bdN (s6_ink u6) (s6_mn u6) p1 0 + 1)) (100 ^ pop8 (bdN (s6_ink u6) (s6_mn u6) p1 0)) b1) else (-1))), (wrL (W8c E k (((s6_g u6), (s6_xa u6), (s6_ra u6), (s6_caz u6), (s6_ca u6), (s6_pq u6), (s6_fl u6), (if okM p1 ((s6_cy u6) 3) then 0 else 1)), g6_1 u6, g6_2 u6, g6_3 u6, g6_4 u6, g6_5 u6, g6_6 u6, g6_7 u6, g6_8 u6, g6_9 u6, g6_10 u6) (((s8_q u8), 0, 1, (-1), (s8_rr u8), (s8_z u8), (s8_nb u8), (s8_wa u8)), g8_1 u8, g8_2 u8, g8_3 u8, g8_4 u8)) ((-1))), Ct.perm hp6.symm (Ct.frL (c_X6_mean l E x (s6_xa u6) (s6_g u6) (s6_tr u6) (s6_fl u6) (s6_pl u6) (s6_cy u6) (s6_ca u6) (s6_Fs u6) (s6_Ft u6) (s6_hi u6) (s6_hm u6) (s6_t u6) (s6_dd u6) (s6_ink u6) (s6_mn u6) p1 b1 (by first | assumption | omega) (by first | assumption | omega) (by first | assumption | omega) (by first | assumption | omega) (by first | assumption | omega) (by first | assumption | omega)) [0, 20, 26, 27, 36, 37, 38] rfl rfl rfl rfl), Ct.perm hp8.symm (Ct.frL (c_X8_mean_no l E k (s8_th u8) (s8_tr8 u8) (s8_wh u8) (s8_g8 u8) (s8_rr u8) (s8_q u8) (upN (upN (upN (upN (s8_z u8) 6 (s6_fd u6)) 12 (s6_fl u6)) 19 (s6_ac u6)) 20 (s6_im u6)) (s8_nb u8) (s8_wa u8) (s8_wd u8) (s8_ev u8) (s8_al u8) (s8_wl u8) (s6_cy u6) (s8_kp u8) (s8_nc u8) (s8_cb u8) p1 b1 (by first | assumption | omega)) [0, 10] rfl rfl rfl rfl), fun r w h => ⟨_, h.2⟩, ?_⟩
      rintro r w r' w' ⟨rfl, rfl⟩ ⟨rfl, rfl⟩
      exact ⟨congrArg (fun z => some (Value.long z)) (if_neg hok), Or.inr ⟨(((s6_g u6), (s6_xa u6), (s6_ra u6), (s6_caz u6), (s6_ca u6), (s6_pq u6), (s6_fl u6), (if okM p1 ((s6_cy u6) 3) then 0 else 1)), g6_1 u6, g6_2 u6, g6_3 u6, g6_4 u6, g6_5 u6, g6_6 u6, g6_7 u6, g6_8 u6, g6_9 u6, g6_10 u6), (((s8_q u8), 0, 1, (-1), (s8_rr u8), (s8_z u8), (s8_nb u8), (s8_wa u8)), g8_1 u8, g8_2 u8, g8_3 u8, g8_4 u8), List.Perm.refl _, List.Perm.refl _, hF, hG, hP, tw_of 1 ((if_neg hok).symm) (by decide) (by decide)⟩⟩
set_option maxRecDepth 100000 in
set_option maxHeartbeats 4000000 in
theorem op_stuck (l : Launch) (E : Et) (x k : Nat)  : OpI E x k (fun w P => Ct l E yX6_stuck cX6_stuck 3 (some .int) 6 0 0 [.ref x] w P) (fun w P => Ct l E yX8_stuck cX8_stuck 3 (some .int) 5 0 0 [.ref k] w P) := by
  intro w6 w8 hv
  rcases hv with hv | hv
  · obtain ⟨u6, u8, hp6, hp8, hF, hN, hW⟩ := hv
    have hfd := hF.1
    have hby := hF.2.1
    have hkw := hF.2.2.1
    have h40z := hF.2.2.2.1
    have h40 := hF.2.2.2.2.1
    have hink2 := hF.2.2.2.2.2.1
    have hwt := hF.2.2.2.2.2.2.1
    have hdy := hF.2.2.2.2.2.2.2.1
    have hds := hF.2.2.2.2.2.2.2.2.1
    have hink := hF.2.2.2.2.2.2.2.2.2.1
    have ht := hF.2.2.2.2.2.2.2.2.2.2.1
    have ho := hF.2.2.2.2.2.2.2.2.2.2.2.1
    have hac := hF.2.2.2.2.2.2.2.2.2.2.2.2.1
    have him := hF.2.2.2.2.2.2.2.2.2.2.2.2.2.1
    have hc0 := hF.2.2.2.2.2.2.2.2.2.2.2.2.2.2.1
    have hc1 := hF.2.2.2.2.2.2.2.2.2.2.2.2.2.2.2.1
    have hc2 := hF.2.2.2.2.2.2.2.2.2.2.2.2.2.2.2.2.1
    have hc3 := hF.2.2.2.2.2.2.2.2.2.2.2.2.2.2.2.2.2.1
    have hc4 := hF.2.2.2.2.2.2.2.2.2.2.2.2.2.2.2.2.2.2.1
    have hc5 := hF.2.2.2.2.2.2.2.2.2.2.2.2.2.2.2.2.2.2.2.1
    have hc6 := hF.2.2.2.2.2.2.2.2.2.2.2.2.2.2.2.2.2.2.2.2.1
    have hc7 := hF.2.2.2.2.2.2.2.2.2.2.2.2.2.2.2.2.2.2.2.2.2
    have htr := hW.1
    have htl := hW.2.1
    have hy0 := hN.1
    have hy3 : (s6_cy u6) 3 = 0 := hy0 3 (by decide)
    have hy4 : (s6_cy u6) 4 = 0 := hy0 4 (by decide)
    have hy5 : (s6_cy u6) 5 = 0 := hy0 5 (by decide)
    have hy6 : (s6_cy u6) 6 = 0 := hy0 6 (by decide)
    refine ⟨(wrI (W6 E x (((s6_g u6), (s6_xa u6), (s6_ra u6), (s6_caz u6), (s6_ca u6), (s6_pq u6), (s6_fl u6), (if (s6_cy u6) 3 = 0 then 1 else 0)), g6_1 u6, g6_2 u6, g6_3 u6, g6_4 u6, g6_5 u6, g6_6 u6, g6_7 u6, g6_8 u6, g6_9 u6, g6_10 u6)) (if (s6_cy u6) 3 = 0 then (-1) else nI (bbits (fun m => decide (kpN (s6_cy u6) (s6_Fs u6) (s6_Ft u6) (s6_t u6) (bdN (s6_ink u6) (s6_mn u6) (nI m) 0) = 0)) ((s6_cy u6) 3)))), (wrI (W8n E k (((s6_g u6), (s6_xa u6), (s6_ra u6), (s6_caz u6), (s6_ca u6), (s6_pq u6), (s6_fl u6), (if (s6_cy u6) 3 = 0 then 1 else 0)), g6_1 u6, g6_2 u6, g6_3 u6, g6_4 u6, g6_5 u6, g6_6 u6, g6_7 u6, g6_8 u6, g6_9 u6, g6_10 u6) (((s8_q u8), 0, 1, (-1), (s8_rr u8), (s8_z u8), (s8_nb u8), (s8_wa u8)), g8_1 u8, g8_2 u8, g8_3 u8, g8_4 u8)) ((-1))), Ct.perm hp6.symm (Ct.frI (c_X6_stuck l E x (s6_xa u6) (s6_g u6) (s6_tr u6) (s6_fl u6) (s6_pl u6) (s6_cy u6) (s6_ca u6) (s6_Fs u6) (s6_Ft u6) (s6_hi u6) (s6_hm u6) (s6_t u6) (s6_dd u6) (s6_ink u6) (s6_mn u6) (by first | assumption | omega) (by first | assumption | omega) (by first | assumption | omega) (by first | assumption | omega) (by first | assumption | omega)) [0, 20, 26, 27, 36, 37, 38] rfl rfl rfl rfl), Ct.perm hp8.symm (Ct.frI (c_X8_stuck_n l E k (s8_th u8) (s8_tr8 u8) (s8_wh u8) (s8_rr u8) (s8_q u8) (upN (upN (upN (upN (s8_z u8) 6 (s6_fd u6)) 12 (s6_fl u6)) 19 (s6_ac u6)) 20 (s6_im u6)) (s8_nb u8) (s8_wa u8) (s8_wd u8) (s8_ev u8) (s8_al u8) (s8_wl u8) ) [0] rfl rfl rfl rfl), fun r w h => ⟨_, h.2⟩, ?_⟩
    rintro r w r' w' ⟨rfl, rfl⟩ ⟨rfl, rfl⟩
    exact ⟨congrArg (fun z => some (Value.int z)) (if_pos hy3), Or.inl ⟨(((s6_g u6), (s6_xa u6), (s6_ra u6), (s6_caz u6), (s6_ca u6), (s6_pq u6), (s6_fl u6), (if (s6_cy u6) 3 = 0 then 1 else 0)), g6_1 u6, g6_2 u6, g6_3 u6, g6_4 u6, g6_5 u6, g6_6 u6, g6_7 u6, g6_8 u6, g6_9 u6, g6_10 u6), (((s8_q u8), 0, 1, (-1), (s8_rr u8), (s8_z u8), (s8_nb u8), (s8_wa u8)), g8_1 u8, g8_2 u8, g8_3 u8, g8_4 u8), List.Perm.refl _, List.Perm.refl _, hF, hN, tw_of 1 ((if_pos hy3).symm) (by decide) (by decide)⟩⟩
  · obtain ⟨u6, u8, hp6, hp8, hF, hG, hP, hW⟩ := hv
    have hfd := hF.1
    have hby := hF.2.1
    have hkw := hF.2.2.1
    have h40z := hF.2.2.2.1
    have h40 := hF.2.2.2.2.1
    have hink2 := hF.2.2.2.2.2.1
    have hwt := hF.2.2.2.2.2.2.1
    have hdy := hF.2.2.2.2.2.2.2.1
    have hds := hF.2.2.2.2.2.2.2.2.1
    have hink := hF.2.2.2.2.2.2.2.2.2.1
    have ht := hF.2.2.2.2.2.2.2.2.2.2.1
    have ho := hF.2.2.2.2.2.2.2.2.2.2.2.1
    have hac := hF.2.2.2.2.2.2.2.2.2.2.2.2.1
    have him := hF.2.2.2.2.2.2.2.2.2.2.2.2.2.1
    have hc0 := hF.2.2.2.2.2.2.2.2.2.2.2.2.2.2.1
    have hc1 := hF.2.2.2.2.2.2.2.2.2.2.2.2.2.2.2.1
    have hc2 := hF.2.2.2.2.2.2.2.2.2.2.2.2.2.2.2.2.1
    have hc3 := hF.2.2.2.2.2.2.2.2.2.2.2.2.2.2.2.2.2.1
    have hc4 := hF.2.2.2.2.2.2.2.2.2.2.2.2.2.2.2.2.2.2.1
    have hc5 := hF.2.2.2.2.2.2.2.2.2.2.2.2.2.2.2.2.2.2.2.1
    have hc6 := hF.2.2.2.2.2.2.2.2.2.2.2.2.2.2.2.2.2.2.2.2.1
    have hc7 := hF.2.2.2.2.2.2.2.2.2.2.2.2.2.2.2.2.2.2.2.2.2
    have htr := hW.1
    have htl := hW.2.1
    have hgb := g8_b hc4 hc5 hc7 hG
    have hfo := hgb.1
    have hon := hgb.2.1
    have htw := hgb.2.2.1
    have hFs := hgb.2.2.2.1
    have hFt := hgb.2.2.2.2.1
    have hik := hgb.2.2.2.2.2.1
    have hun := hgb.2.2.2.2.2.2.1
    have hdi := hgb.2.2.2.2.2.2.2.1
    have hd2 := hgb.2.2.2.2.2.2.2.2.1
    have hd3 := hgb.2.2.2.2.2.2.2.2.2.1
    have hkp := hgb.2.2.2.2.2.2.2.2.2.2.1
    have hm1 := hgb.2.2.2.2.2.2.2.2.2.2.2.1
    have hal_ := hgb.2.2.2.2.2.2.2.2.2.2.2.2
    have hal := hal_ (s6_t u6)
    have hz : ∀ c, (s6_cy u6) 5 ≤ c → (s6_ink u6) c = 0 := hP.1.2.1
    have hmz : ∀ c, (s6_cy u6) 5 ≤ c → (s6_mn u6) c = -1 := hP.1.2.2.1
    have hdd9 : (s6_dd u6) ≤ 999 := hP.1.2.2.2.2
    have hw8 := w8_e hG
    have h30 : ¬ (s6_cy u6) 3 = 0 := by omega
    refine ⟨(wrI (W6 E x (((s6_g u6), (s6_xa u6), (s6_ra u6), (s6_caz u6), (s6_ca u6), (s6_pq u6), (s6_fl u6), (if (s6_cy u6) 3 = 0 then 1 else 0)), g6_1 u6, g6_2 u6, g6_3 u6, g6_4 u6, g6_5 u6, g6_6 u6, g6_7 u6, g6_8 u6, g6_9 u6, g6_10 u6)) (if (s6_cy u6) 3 = 0 then (-1) else nI (bbits (fun m => decide (kpN (s6_cy u6) (s6_Fs u6) (s6_Ft u6) (s6_t u6) (bdN (s6_ink u6) (s6_mn u6) (nI m) 0) = 0)) ((s6_cy u6) 3)))), (wrI (W8c E k (((s6_g u6), (s6_xa u6), (s6_ra u6), (s6_caz u6), (s6_ca u6), (s6_pq u6), (s6_fl u6), (if (s6_cy u6) 3 = 0 then 1 else 0)), g6_1 u6, g6_2 u6, g6_3 u6, g6_4 u6, g6_5 u6, g6_6 u6, g6_7 u6, g6_8 u6, g6_9 u6, g6_10 u6) (((s8_q u8), 0, 0, (-1), (s8_rr u8), (s8_z u8), (s8_nb u8), (s8_wa u8)), ((s8_wd u8), (allS ((s6_cy u6) 4)), (s8_al u8), (s8_wl u8), (xF (s6_mn u6) (s6_ink u6) (s6_t u6) (s6_dd u6)), (s8_pp u8), (s8_pj8 u8), (lyF (s6_Fs u6) (s6_Ft u6) (s6_t u6) ((s6_cy u6) 4) (s8_ke u8) ((s6_cy u6) 5))), g8_2 u8, g8_3 u8, g8_4 u8)) (nI (bbits (fun m => decide (kpN (s6_cy u6) (s6_Fs u6) (s6_Ft u6) (s6_t u6) (bdN (s6_ink u6) (s6_mn u6) (nI m) 0) = 0)) ((s6_cy u6) 3)))), Ct.perm hp6.symm (Ct.frI (c_X6_stuck l E x (s6_xa u6) (s6_g u6) (s6_tr u6) (s6_fl u6) (s6_pl u6) (s6_cy u6) (s6_ca u6) (s6_Fs u6) (s6_Ft u6) (s6_hi u6) (s6_hm u6) (s6_t u6) (s6_dd u6) (s6_ink u6) (s6_mn u6) (by first | assumption | omega) (by first | assumption | omega) (by first | assumption | omega) (by first | assumption | omega) (by first | assumption | omega)) [0, 20, 26, 27, 36, 37, 38] rfl rfl rfl rfl), Ct.perm hp8.symm (Ct.frI (c_X8_stuck l E k (s8_th u8) (s8_tr8 u8) (s8_wh u8) (s8_g8 u8) (s8_rr u8) (s8_q u8) (upN (upN (upN (upN (s8_z u8) 6 (s6_fd u6)) 12 (s6_fl u6)) 19 (s6_ac u6)) 20 (s6_im u6)) (s8_nb u8) (s8_wa u8) (s8_wd u8) (s8_ev u8) (s8_al u8) (s8_wl u8) (s6_cy u6) (s8_kp u8) (s8_nc u8) (s8_cb u8) (s8_gf u8) (s8_go_ u8) (s8_gt_ u8) (s8_xf u8) (s6_mn u6) (s6_ink u6) (s6_t u6) (s6_dd u6) (s6_Fs u6) (s6_Ft u6) (s8_ke u8) (by first | assumption | omega) (by first | assumption | omega) (by first | assumption | omega) (by first | assumption | omega) (by first | assumption | omega) (by first | assumption | omega) (by first | assumption | omega) (by first | assumption | omega) (by first | assumption | omega) (by first | assumption | omega)) [0, 10, 13, 14, 15, 2, 3, 6] rfl rfl rfl rfl), fun r w h => ⟨_, h.2⟩, ?_⟩
    rintro r w r' w' ⟨rfl, rfl⟩ ⟨rfl, rfl⟩
    exact ⟨congrArg (fun z => some (Value.int z)) (if_neg h30), Or.inr ⟨(((s6_g u6), (s6_xa u6), (s6_ra u6), (s6_caz u6), (s6_ca u6), (s6_pq u6), (s6_fl u6), (if (s6_cy u6) 3 = 0 then 1 else 0)), g6_1 u6, g6_2 u6, g6_3 u6, g6_4 u6, g6_5 u6, g6_6 u6, g6_7 u6, g6_8 u6, g6_9 u6, g6_10 u6), (((s8_q u8), 0, 0, (-1), (s8_rr u8), (s8_z u8), (s8_nb u8), (s8_wa u8)), ((s8_wd u8), (allS ((s6_cy u6) 4)), (s8_al u8), (s8_wl u8), (xF (s6_mn u6) (s6_ink u6) (s6_t u6) (s6_dd u6)), (s8_pp u8), (s8_pj8 u8), (lyF (s6_Fs u6) (s6_Ft u6) (s6_t u6) ((s6_cy u6) 4) (s8_ke u8) ((s6_cy u6) 5))), g8_2 u8, g8_3 u8, g8_4 u8), List.Perm.refl _, List.Perm.refl _, hF, hG, hP, tw_of 0 ((if_neg h30).symm) (by decide) (by decide)⟩⟩
set_option maxRecDepth 100000 in
set_option maxHeartbeats 4000000 in
theorem op_mostBound (l : Launch) (E : Et) (x k : Nat)  : OpI E x k (fun w P => Ct l E yX6_mostBound cX6_mostBound 3 (some .int) 6 0 0 [.ref x] w P) (fun w P => Ct l E yX8_mostBound cX8_mostBound 3 (some .int) 5 0 0 [.ref k] w P) := by
  intro w6 w8 hv
  rcases hv with hv | hv
  · obtain ⟨u6, u8, hp6, hp8, hF, hN, hW⟩ := hv
    have hfd := hF.1
    have hby := hF.2.1
    have hkw := hF.2.2.1
    have h40z := hF.2.2.2.1
    have h40 := hF.2.2.2.2.1
    have hink2 := hF.2.2.2.2.2.1
    have hwt := hF.2.2.2.2.2.2.1
    have hdy := hF.2.2.2.2.2.2.2.1
    have hds := hF.2.2.2.2.2.2.2.2.1
    have hink := hF.2.2.2.2.2.2.2.2.2.1
    have ht := hF.2.2.2.2.2.2.2.2.2.2.1
    have ho := hF.2.2.2.2.2.2.2.2.2.2.2.1
    have hac := hF.2.2.2.2.2.2.2.2.2.2.2.2.1
    have him := hF.2.2.2.2.2.2.2.2.2.2.2.2.2.1
    have hc0 := hF.2.2.2.2.2.2.2.2.2.2.2.2.2.2.1
    have hc1 := hF.2.2.2.2.2.2.2.2.2.2.2.2.2.2.2.1
    have hc2 := hF.2.2.2.2.2.2.2.2.2.2.2.2.2.2.2.2.1
    have hc3 := hF.2.2.2.2.2.2.2.2.2.2.2.2.2.2.2.2.2.1
    have hc4 := hF.2.2.2.2.2.2.2.2.2.2.2.2.2.2.2.2.2.2.1
    have hc5 := hF.2.2.2.2.2.2.2.2.2.2.2.2.2.2.2.2.2.2.2.1
    have hc6 := hF.2.2.2.2.2.2.2.2.2.2.2.2.2.2.2.2.2.2.2.2.1
    have hc7 := hF.2.2.2.2.2.2.2.2.2.2.2.2.2.2.2.2.2.2.2.2.2
    have htr := hW.1
    have htl := hW.2.1
    have hy0 := hN.1
    have hy3 : (s6_cy u6) 3 = 0 := hy0 3 (by decide)
    have hy4 : (s6_cy u6) 4 = 0 := hy0 4 (by decide)
    have hy5 : (s6_cy u6) 5 = 0 := hy0 5 (by decide)
    have hy6 : (s6_cy u6) 6 = 0 := hy0 6 (by decide)
    refine ⟨(wrI (W6 E x (((s6_g u6), (s6_xa u6), (s6_ra u6), (s6_caz u6), (s6_ca u6), (s6_pq u6), (s6_fl u6), (if (s6_cy u6) 3 = 0 then 1 else 0)), g6_1 u6, g6_2 u6, g6_3 u6, g6_4 u6, g6_5 u6, g6_6 u6, g6_7 u6, g6_8 u6, g6_9 u6, g6_10 u6)) (if (s6_cy u6) 3 = 0 then (-1) else nI (mbF (fun m => pop64 (kpN (s6_cy u6) (s6_Fs u6) (s6_Ft u6) (s6_t u6) (bdN (s6_ink u6) (s6_mn u6) (nI m) 0))) ((s6_cy u6) 3)))), (wrI (W8n E k (((s6_g u6), (s6_xa u6), (s6_ra u6), (s6_caz u6), (s6_ca u6), (s6_pq u6), (s6_fl u6), (if (s6_cy u6) 3 = 0 then 1 else 0)), g6_1 u6, g6_2 u6, g6_3 u6, g6_4 u6, g6_5 u6, g6_6 u6, g6_7 u6, g6_8 u6, g6_9 u6, g6_10 u6) (((s8_q u8), 0, 1, (-1), (s8_rr u8), (s8_z u8), (s8_nb u8), (s8_wa u8)), g8_1 u8, g8_2 u8, g8_3 u8, g8_4 u8)) ((-1))), Ct.perm hp6.symm (Ct.frI (c_X6_mostBound l E x (s6_xa u6) (s6_g u6) (s6_tr u6) (s6_fl u6) (s6_pl u6) (s6_cy u6) (s6_ca u6) (s6_Fs u6) (s6_Ft u6) (s6_hi u6) (s6_hm u6) (s6_t u6) (s6_dd u6) (s6_ink u6) (s6_mn u6) (by first | assumption | omega) (by first | assumption | omega) (by first | assumption | omega) (by first | assumption | omega) (by first | assumption | omega)) [0, 20, 26, 27, 36, 37, 38] rfl rfl rfl rfl), Ct.perm hp8.symm (Ct.frI (c_X8_mostBound_n l E k (s8_th u8) (s8_tr8 u8) (s8_wh u8) (s8_rr u8) (s8_q u8) (upN (upN (upN (upN (s8_z u8) 6 (s6_fd u6)) 12 (s6_fl u6)) 19 (s6_ac u6)) 20 (s6_im u6)) (s8_nb u8) (s8_wa u8) (s8_wd u8) (s8_ev u8) (s8_al u8) (s8_wl u8) ) [0] rfl rfl rfl rfl), fun r w h => ⟨_, h.2⟩, ?_⟩
    rintro r w r' w' ⟨rfl, rfl⟩ ⟨rfl, rfl⟩
    exact ⟨congrArg (fun z => some (Value.int z)) (if_pos hy3), Or.inl ⟨(((s6_g u6), (s6_xa u6), (s6_ra u6), (s6_caz u6), (s6_ca u6), (s6_pq u6), (s6_fl u6), (if (s6_cy u6) 3 = 0 then 1 else 0)), g6_1 u6, g6_2 u6, g6_3 u6, g6_4 u6, g6_5 u6, g6_6 u6, g6_7 u6, g6_8 u6, g6_9 u6, g6_10 u6), (((s8_q u8), 0, 1, (-1), (s8_rr u8), (s8_z u8), (s8_nb u8), (s8_wa u8)), g8_1 u8, g8_2 u8, g8_3 u8, g8_4 u8), List.Perm.refl _, List.Perm.refl _, hF, hN, tw_of 1 ((if_pos hy3).symm) (by decide) (by decide)⟩⟩
  · obtain ⟨u6, u8, hp6, hp8, hF, hG, hP, hW⟩ := hv
    have hfd := hF.1
    have hby := hF.2.1
    have hkw := hF.2.2.1
    have h40z := hF.2.2.2.1
    have h40 := hF.2.2.2.2.1
    have hink2 := hF.2.2.2.2.2.1
    have hwt := hF.2.2.2.2.2.2.1
    have hdy := hF.2.2.2.2.2.2.2.1
    have hds := hF.2.2.2.2.2.2.2.2.1
    have hink := hF.2.2.2.2.2.2.2.2.2.1
    have ht := hF.2.2.2.2.2.2.2.2.2.2.1
    have ho := hF.2.2.2.2.2.2.2.2.2.2.2.1
    have hac := hF.2.2.2.2.2.2.2.2.2.2.2.2.1
    have him := hF.2.2.2.2.2.2.2.2.2.2.2.2.2.1
    have hc0 := hF.2.2.2.2.2.2.2.2.2.2.2.2.2.2.1
    have hc1 := hF.2.2.2.2.2.2.2.2.2.2.2.2.2.2.2.1
    have hc2 := hF.2.2.2.2.2.2.2.2.2.2.2.2.2.2.2.2.1
    have hc3 := hF.2.2.2.2.2.2.2.2.2.2.2.2.2.2.2.2.2.1
    have hc4 := hF.2.2.2.2.2.2.2.2.2.2.2.2.2.2.2.2.2.2.1
    have hc5 := hF.2.2.2.2.2.2.2.2.2.2.2.2.2.2.2.2.2.2.2.1
    have hc6 := hF.2.2.2.2.2.2.2.2.2.2.2.2.2.2.2.2.2.2.2.2.1
    have hc7 := hF.2.2.2.2.2.2.2.2.2.2.2.2.2.2.2.2.2.2.2.2.2
    have htr := hW.1
    have htl := hW.2.1
    have hgb := g8_b hc4 hc5 hc7 hG
    have hfo := hgb.1
    have hon := hgb.2.1
    have htw := hgb.2.2.1
    have hFs := hgb.2.2.2.1
    have hFt := hgb.2.2.2.2.1
    have hik := hgb.2.2.2.2.2.1
    have hun := hgb.2.2.2.2.2.2.1
    have hdi := hgb.2.2.2.2.2.2.2.1
    have hd2 := hgb.2.2.2.2.2.2.2.2.1
    have hd3 := hgb.2.2.2.2.2.2.2.2.2.1
    have hkp := hgb.2.2.2.2.2.2.2.2.2.2.1
    have hm1 := hgb.2.2.2.2.2.2.2.2.2.2.2.1
    have hal_ := hgb.2.2.2.2.2.2.2.2.2.2.2.2
    have hal := hal_ (s6_t u6)
    have hz : ∀ c, (s6_cy u6) 5 ≤ c → (s6_ink u6) c = 0 := hP.1.2.1
    have hmz : ∀ c, (s6_cy u6) 5 ≤ c → (s6_mn u6) c = -1 := hP.1.2.2.1
    have hdd9 : (s6_dd u6) ≤ 999 := hP.1.2.2.2.2
    have hw8 := w8_e hG
    have h30 : ¬ (s6_cy u6) 3 = 0 := by omega
    refine ⟨(wrI (W6 E x (((s6_g u6), (s6_xa u6), (s6_ra u6), (s6_caz u6), (s6_ca u6), (s6_pq u6), (s6_fl u6), (if (s6_cy u6) 3 = 0 then 1 else 0)), g6_1 u6, g6_2 u6, g6_3 u6, g6_4 u6, g6_5 u6, g6_6 u6, g6_7 u6, g6_8 u6, g6_9 u6, g6_10 u6)) (if (s6_cy u6) 3 = 0 then (-1) else nI (mbF (fun m => pop64 (kpN (s6_cy u6) (s6_Fs u6) (s6_Ft u6) (s6_t u6) (bdN (s6_ink u6) (s6_mn u6) (nI m) 0))) ((s6_cy u6) 3)))), (wrI (W8c E k (((s6_g u6), (s6_xa u6), (s6_ra u6), (s6_caz u6), (s6_ca u6), (s6_pq u6), (s6_fl u6), (if (s6_cy u6) 3 = 0 then 1 else 0)), g6_1 u6, g6_2 u6, g6_3 u6, g6_4 u6, g6_5 u6, g6_6 u6, g6_7 u6, g6_8 u6, g6_9 u6, g6_10 u6) (((s8_q u8), 0, 0, (-1), (s8_rr u8), (s8_z u8), (s8_nb u8), (s8_wa u8)), ((s8_wd u8), (allS ((s6_cy u6) 4)), (s8_al u8), (s8_wl u8), (xF (s6_mn u6) (s6_ink u6) (s6_t u6) (s6_dd u6)), (s8_pp u8), (s8_pj8 u8), (lyF (s6_Fs u6) (s6_Ft u6) (s6_t u6) ((s6_cy u6) 4) (s8_ke u8) ((s6_cy u6) 5))), g8_2 u8, g8_3 u8, g8_4 u8)) (nI (mbF (fun m => pop64 (kpN (s6_cy u6) (s6_Fs u6) (s6_Ft u6) (s6_t u6) (bdN (s6_ink u6) (s6_mn u6) (nI m) 0))) ((s6_cy u6) 3)))), Ct.perm hp6.symm (Ct.frI (c_X6_mostBound l E x (s6_xa u6) (s6_g u6) (s6_tr u6) (s6_fl u6) (s6_pl u6) (s6_cy u6) (s6_ca u6) (s6_Fs u6) (s6_Ft u6) (s6_hi u6) (s6_hm u6) (s6_t u6) (s6_dd u6) (s6_ink u6) (s6_mn u6) (by first | assumption | omega) (by first | assumption | omega) (by first | assumption | omega) (by first | assumption | omega) (by first | assumption | omega)) [0, 20, 26, 27, 36, 37, 38] rfl rfl rfl rfl), Ct.perm hp8.symm (Ct.frI (c_X8_mostBound l E k (s8_th u8) (s8_tr8 u8) (s8_wh u8) (s8_g8 u8) (s8_rr u8) (s8_q u8) (upN (upN (upN (upN (s8_z u8) 6 (s6_fd u6)) 12 (s6_fl u6)) 19 (s6_ac u6)) 20 (s6_im u6)) (s8_nb u8) (s8_wa u8) (s8_wd u8) (s8_ev u8) (s8_al u8) (s8_wl u8) (s6_cy u6) (s8_kp u8) (s8_nc u8) (s8_cb u8) (s8_gf u8) (s8_go_ u8) (s8_gt_ u8) (s8_xf u8) (s6_mn u6) (s6_ink u6) (s6_t u6) (s6_dd u6) (s6_Fs u6) (s6_Ft u6) (s8_ke u8) (by first | assumption | omega) (by first | assumption | omega) (by first | assumption | omega) (by first | assumption | omega) (by first | assumption | omega) (by first | assumption | omega) (by first | assumption | omega) (by first | assumption | omega) (by first | assumption | omega) (by first | assumption | omega) (by first | assumption | omega)) [0, 10, 13, 14, 15, 2, 3, 6] rfl rfl rfl rfl), fun r w h => ⟨_, h.2⟩, ?_⟩
    rintro r w r' w' ⟨rfl, rfl⟩ ⟨rfl, rfl⟩
    exact ⟨congrArg (fun z => some (Value.int z)) (if_neg h30), Or.inr ⟨(((s6_g u6), (s6_xa u6), (s6_ra u6), (s6_caz u6), (s6_ca u6), (s6_pq u6), (s6_fl u6), (if (s6_cy u6) 3 = 0 then 1 else 0)), g6_1 u6, g6_2 u6, g6_3 u6, g6_4 u6, g6_5 u6, g6_6 u6, g6_7 u6, g6_8 u6, g6_9 u6, g6_10 u6), (((s8_q u8), 0, 0, (-1), (s8_rr u8), (s8_z u8), (s8_nb u8), (s8_wa u8)), ((s8_wd u8), (allS ((s6_cy u6) 4)), (s8_al u8), (s8_wl u8), (xF (s6_mn u6) (s6_ink u6) (s6_t u6) (s6_dd u6)), (s8_pp u8), (s8_pj8 u8), (lyF (s6_Fs u6) (s6_Ft u6) (s6_t u6) ((s6_cy u6) 4) (s8_ke u8) ((s6_cy u6) 5))), g8_2 u8, g8_3 u8, g8_4 u8), List.Perm.refl _, List.Perm.refl _, hF, hG, hP, tw_of 0 ((if_neg h30).symm) (by decide) (by decide)⟩⟩
set_option maxRecDepth 100000 in
set_option maxHeartbeats 4000000 in
theorem op_together (l : Launch) (E : Et) (x k : Nat)  : OpI E x k (fun w P => Ct l E yX6_together cX6_together 4 (some .int) 6 0 0 [.ref x] w P) (fun w P => Ct l E yX8_together cX8_together 4 (some .int) 5 0 0 [.ref k] w P) := by
  intro w6 w8 hv
  rcases hv with hv | hv
  · obtain ⟨u6, u8, hp6, hp8, hF, hN, hW⟩ := hv
    have hfd := hF.1
    have hby := hF.2.1
    have hkw := hF.2.2.1
    have h40z := hF.2.2.2.1
    have h40 := hF.2.2.2.2.1
    have hink2 := hF.2.2.2.2.2.1
    have hwt := hF.2.2.2.2.2.2.1
    have hdy := hF.2.2.2.2.2.2.2.1
    have hds := hF.2.2.2.2.2.2.2.2.1
    have hink := hF.2.2.2.2.2.2.2.2.2.1
    have ht := hF.2.2.2.2.2.2.2.2.2.2.1
    have ho := hF.2.2.2.2.2.2.2.2.2.2.2.1
    have hac := hF.2.2.2.2.2.2.2.2.2.2.2.2.1
    have him := hF.2.2.2.2.2.2.2.2.2.2.2.2.2.1
    have hc0 := hF.2.2.2.2.2.2.2.2.2.2.2.2.2.2.1
    have hc1 := hF.2.2.2.2.2.2.2.2.2.2.2.2.2.2.2.1
    have hc2 := hF.2.2.2.2.2.2.2.2.2.2.2.2.2.2.2.2.1
    have hc3 := hF.2.2.2.2.2.2.2.2.2.2.2.2.2.2.2.2.2.1
    have hc4 := hF.2.2.2.2.2.2.2.2.2.2.2.2.2.2.2.2.2.2.1
    have hc5 := hF.2.2.2.2.2.2.2.2.2.2.2.2.2.2.2.2.2.2.2.1
    have hc6 := hF.2.2.2.2.2.2.2.2.2.2.2.2.2.2.2.2.2.2.2.2.1
    have hc7 := hF.2.2.2.2.2.2.2.2.2.2.2.2.2.2.2.2.2.2.2.2.2
    have htr := hW.1
    have htl := hW.2.1
    have hy0 := hN.1
    have hy3 : (s6_cy u6) 3 = 0 := hy0 3 (by decide)
    have hy4 : (s6_cy u6) 4 = 0 := hy0 4 (by decide)
    have hy5 : (s6_cy u6) 5 = 0 := hy0 5 (by decide)
    have hy6 : (s6_cy u6) 6 = 0 := hy0 6 (by decide)
    refine ⟨(wrI (W6 E x (((s6_g u6), (s6_xa u6), (s6_ra u6), (s6_caz u6), (s6_ca u6), (s6_pq u6), (s6_fl u6), (if (s6_cy u6) 3 = 0 then 1 else 0)), g6_1 u6, g6_2 u6, g6_3 u6, g6_4 u6, g6_5 u6, g6_6 u6, g6_7 u6, g6_8 u6, g6_9 u6, g6_10 u6)) (if (s6_cy u6) 3 = 0 then (-1) else nI (togF (fun p => decide (ndf p (bbits (fun c => decide (0 < (s6_ink u6) c)) 8) = 0 ∧ ¬ kpN (s6_cy u6) (s6_Fs u6) (s6_Ft u6) (s6_t u6) p = 0)) (bbits (fun c => decide (0 < (s6_ink u6) c)) 8 + 1)))), (wrI (W8n E k (((s6_g u6), (s6_xa u6), (s6_ra u6), (s6_caz u6), (s6_ca u6), (s6_pq u6), (s6_fl u6), (if (s6_cy u6) 3 = 0 then 1 else 0)), g6_1 u6, g6_2 u6, g6_3 u6, g6_4 u6, g6_5 u6, g6_6 u6, g6_7 u6, g6_8 u6, g6_9 u6, g6_10 u6) (((s8_q u8), 0, 1, (-1), (s8_rr u8), (s8_z u8), (s8_nb u8), (s8_wa u8)), g8_1 u8, g8_2 u8, g8_3 u8, g8_4 u8)) ((-1))), Ct.perm hp6.symm (Ct.frI (c_X6_together l E x (s6_xa u6) (s6_g u6) (s6_tr u6) (s6_fl u6) (s6_pl u6) (s6_cy u6) (s6_ca u6) (s6_Fs u6) (s6_Ft u6) (s6_hi u6) (s6_hm u6) (s6_t u6) (s6_dd u6) (s6_ink u6) (s6_mn u6) (by first | assumption | omega) (by first | assumption | omega) (by first | assumption | omega) (by first | assumption | omega) (by first | assumption | omega)) [0, 20, 26, 27, 36, 37, 38] rfl rfl rfl rfl), Ct.perm hp8.symm (Ct.frI (c_X8_together_n l E k (s8_th u8) (s8_tr8 u8) (s8_wh u8) (s8_rr u8) (s8_q u8) (upN (upN (upN (upN (s8_z u8) 6 (s6_fd u6)) 12 (s6_fl u6)) 19 (s6_ac u6)) 20 (s6_im u6)) (s8_nb u8) (s8_wa u8) (s8_wd u8) (s8_ev u8) (s8_al u8) (s8_wl u8) ) [0] rfl rfl rfl rfl), fun r w h => ⟨_, h.2⟩, ?_⟩
    rintro r w r' w' ⟨rfl, rfl⟩ ⟨rfl, rfl⟩
    exact ⟨congrArg (fun z => some (Value.int z)) (if_pos hy3), Or.inl ⟨(((s6_g u6), (s6_xa u6), (s6_ra u6), (s6_caz u6), (s6_ca u6), (s6_pq u6), (s6_fl u6), (if (s6_cy u6) 3 = 0 then 1 else 0)), g6_1 u6, g6_2 u6, g6_3 u6, g6_4 u6, g6_5 u6, g6_6 u6, g6_7 u6, g6_8 u6, g6_9 u6, g6_10 u6), (((s8_q u8), 0, 1, (-1), (s8_rr u8), (s8_z u8), (s8_nb u8), (s8_wa u8)), g8_1 u8, g8_2 u8, g8_3 u8, g8_4 u8), List.Perm.refl _, List.Perm.refl _, hF, hN, tw_of 1 ((if_pos hy3).symm) (by decide) (by decide)⟩⟩
  · obtain ⟨u6, u8, hp6, hp8, hF, hG, hP, hW⟩ := hv
    have hfd := hF.1
    have hby := hF.2.1
    have hkw := hF.2.2.1
    have h40z := hF.2.2.2.1
    have h40 := hF.2.2.2.2.1
    have hink2 := hF.2.2.2.2.2.1
    have hwt := hF.2.2.2.2.2.2.1
    have hdy := hF.2.2.2.2.2.2.2.1
    have hds := hF.2.2.2.2.2.2.2.2.1
    have hink := hF.2.2.2.2.2.2.2.2.2.1
    have ht := hF.2.2.2.2.2.2.2.2.2.2.1
    have ho := hF.2.2.2.2.2.2.2.2.2.2.2.1
    have hac := hF.2.2.2.2.2.2.2.2.2.2.2.2.1
    have him := hF.2.2.2.2.2.2.2.2.2.2.2.2.2.1
    have hc0 := hF.2.2.2.2.2.2.2.2.2.2.2.2.2.2.1
    have hc1 := hF.2.2.2.2.2.2.2.2.2.2.2.2.2.2.2.1
    have hc2 := hF.2.2.2.2.2.2.2.2.2.2.2.2.2.2.2.2.1
    have hc3 := hF.2.2.2.2.2.2.2.2.2.2.2.2.2.2.2.2.2.1
    have hc4 := hF.2.2.2.2.2.2.2.2.2.2.2.2.2.2.2.2.2.2.1
    have hc5 := hF.2.2.2.2.2.2.2.2.2.2.2.2.2.2.2.2.2.2.2.1
    have hc6 := hF.2.2.2.2.2.2.2.2.2.2.2.2.2.2.2.2.2.2.2.2.1
    have hc7 := hF.2.2.2.2.2.2.2.2.2.2.2.2.2.2.2.2.2.2.2.2.2
    have htr := hW.1
    have htl := hW.2.1
    have hgb := g8_b hc4 hc5 hc7 hG
    have hfo := hgb.1
    have hon := hgb.2.1
    have htw := hgb.2.2.1
    have hFs := hgb.2.2.2.1
    have hFt := hgb.2.2.2.2.1
    have hik := hgb.2.2.2.2.2.1
    have hun := hgb.2.2.2.2.2.2.1
    have hdi := hgb.2.2.2.2.2.2.2.1
    have hd2 := hgb.2.2.2.2.2.2.2.2.1
    have hd3 := hgb.2.2.2.2.2.2.2.2.2.1
    have hkp := hgb.2.2.2.2.2.2.2.2.2.2.1
    have hm1 := hgb.2.2.2.2.2.2.2.2.2.2.2.1
    have hal_ := hgb.2.2.2.2.2.2.2.2.2.2.2.2
    have hal := hal_ (s6_t u6)
    have hz : ∀ c, (s6_cy u6) 5 ≤ c → (s6_ink u6) c = 0 := hP.1.2.1
    have hmz : ∀ c, (s6_cy u6) 5 ≤ c → (s6_mn u6) c = -1 := hP.1.2.2.1
    have hdd9 : (s6_dd u6) ≤ 999 := hP.1.2.2.2.2
    have hw8 := w8_e hG
    have h30 : ¬ (s6_cy u6) 3 = 0 := by omega
    refine ⟨(wrI (W6 E x (((s6_g u6), (s6_xa u6), (s6_ra u6), (s6_caz u6), (s6_ca u6), (s6_pq u6), (s6_fl u6), (if (s6_cy u6) 3 = 0 then 1 else 0)), g6_1 u6, g6_2 u6, g6_3 u6, g6_4 u6, g6_5 u6, g6_6 u6, g6_7 u6, g6_8 u6, g6_9 u6, g6_10 u6)) (if (s6_cy u6) 3 = 0 then (-1) else nI (togF (fun p => decide (ndf p (bbits (fun c => decide (0 < (s6_ink u6) c)) 8) = 0 ∧ ¬ kpN (s6_cy u6) (s6_Fs u6) (s6_Ft u6) (s6_t u6) p = 0)) (bbits (fun c => decide (0 < (s6_ink u6) c)) 8 + 1)))), (wrI (W8c E k (((s6_g u6), (s6_xa u6), (s6_ra u6), (s6_caz u6), (s6_ca u6), (s6_pq u6), (s6_fl u6), (if (s6_cy u6) 3 = 0 then 1 else 0)), g6_1 u6, g6_2 u6, g6_3 u6, g6_4 u6, g6_5 u6, g6_6 u6, g6_7 u6, g6_8 u6, g6_9 u6, g6_10 u6) (((s8_q u8), 0, 0, (-1), (s8_rr u8), (s8_z u8), (s8_nb u8), (s8_wa u8)), ((s8_wd u8), (allS ((s6_cy u6) 4)), (s8_al u8), (s8_wl u8), (xF (s6_mn u6) (s6_ink u6) (s6_t u6) (s6_dd u6)), (s8_pp u8), (s8_pj8 u8), (lyF (s6_Fs u6) (s6_Ft u6) (s6_t u6) ((s6_cy u6) 4) (s8_ke u8) ((s6_cy u6) 5))), g8_2 u8, g8_3 u8, g8_4 u8)) (nI (togF (fun p => decide (ndf p (bbits (fun c => decide (0 < (s6_ink u6) c)) 8) = 0 ∧ ¬ kpN (s6_cy u6) (s6_Fs u6) (s6_Ft u6) (s6_t u6) p = 0)) (bbits (fun c => decide (0 < (s6_ink u6) c)) 8 + 1)))), Ct.perm hp6.symm (Ct.frI (c_X6_together l E x (s6_xa u6) (s6_g u6) (s6_tr u6) (s6_fl u6) (s6_pl u6) (s6_cy u6) (s6_ca u6) (s6_Fs u6) (s6_Ft u6) (s6_hi u6) (s6_hm u6) (s6_t u6) (s6_dd u6) (s6_ink u6) (s6_mn u6) (by first | assumption | omega) (by first | assumption | omega) (by first | assumption | omega) (by first | assumption | omega) (by first | assumption | omega)) [0, 20, 26, 27, 36, 37, 38] rfl rfl rfl rfl), Ct.perm hp8.symm (Ct.frI (c_X8_together l E k (s8_th u8) (s8_tr8 u8) (s8_wh u8) (s8_g8 u8) (s8_rr u8) (s8_q u8) (upN (upN (upN (upN (s8_z u8) 6 (s6_fd u6)) 12 (s6_fl u6)) 19 (s6_ac u6)) 20 (s6_im u6)) (s8_nb u8) (s8_wa u8) (s8_wd u8) (s8_ev u8) (s8_al u8) (s8_wl u8) (s6_cy u6) (s8_kp u8) (s8_nc u8) (s8_cb u8) (s8_gf u8) (s8_go_ u8) (s8_gt_ u8) (s8_xf u8) (s6_mn u6) (s6_ink u6) (s6_t u6) (s6_dd u6) (s6_Fs u6) (s6_Ft u6) (s8_ke u8) (by first | assumption | omega) (by first | assumption | omega) (by first | assumption | omega) (by first | assumption | omega) (by first | assumption | omega) (by first | assumption | omega) (by first | assumption | omega) (by first | assumption | omega) (by first | assumption | omega)) [0, 10, 13, 14, 15, 2, 3, 6] rfl rfl rfl rfl), fun r w h => ⟨_, h.2⟩, ?_⟩
    rintro r w r' w' ⟨rfl, rfl⟩ ⟨rfl, rfl⟩
    exact ⟨congrArg (fun z => some (Value.int z)) (if_neg h30), Or.inr ⟨(((s6_g u6), (s6_xa u6), (s6_ra u6), (s6_caz u6), (s6_ca u6), (s6_pq u6), (s6_fl u6), (if (s6_cy u6) 3 = 0 then 1 else 0)), g6_1 u6, g6_2 u6, g6_3 u6, g6_4 u6, g6_5 u6, g6_6 u6, g6_7 u6, g6_8 u6, g6_9 u6, g6_10 u6), (((s8_q u8), 0, 0, (-1), (s8_rr u8), (s8_z u8), (s8_nb u8), (s8_wa u8)), ((s8_wd u8), (allS ((s6_cy u6) 4)), (s8_al u8), (s8_wl u8), (xF (s6_mn u6) (s6_ink u6) (s6_t u6) (s6_dd u6)), (s8_pp u8), (s8_pj8 u8), (lyF (s6_Fs u6) (s6_Ft u6) (s6_t u6) ((s6_cy u6) 4) (s8_ke u8) ((s6_cy u6) 5))), g8_2 u8, g8_3 u8, g8_4 u8), List.Perm.refl _, List.Perm.refl _, hF, hG, hP, tw_of 0 ((if_neg h30).symm) (by decide) (by decide)⟩⟩
set_option maxRecDepth 100000 in
set_option maxHeartbeats 4000000 in
theorem op_fits (l : Launch) (E : Et) (x k : Nat)  : OpI E x k (fun w P => Ct l E yX6_fits cX6_fits 1 (some .int) 6 0 0 [.ref x] w P) (fun w P => Ct l E yX8_fits cX8_fits 1 (some .int) 5 0 0 [.ref k] w P) := by
  intro w6 w8 hv
  rcases hv with hv | hv
  · obtain ⟨u6, u8, hp6, hp8, hF, hN, hW⟩ := hv
    have hfd := hF.1
    have hby := hF.2.1
    have hkw := hF.2.2.1
    have h40z := hF.2.2.2.1
    have h40 := hF.2.2.2.2.1
    have hink2 := hF.2.2.2.2.2.1
    have hwt := hF.2.2.2.2.2.2.1
    have hdy := hF.2.2.2.2.2.2.2.1
    have hds := hF.2.2.2.2.2.2.2.2.1
    have hink := hF.2.2.2.2.2.2.2.2.2.1
    have ht := hF.2.2.2.2.2.2.2.2.2.2.1
    have ho := hF.2.2.2.2.2.2.2.2.2.2.2.1
    have hac := hF.2.2.2.2.2.2.2.2.2.2.2.2.1
    have him := hF.2.2.2.2.2.2.2.2.2.2.2.2.2.1
    have hc0 := hF.2.2.2.2.2.2.2.2.2.2.2.2.2.2.1
    have hc1 := hF.2.2.2.2.2.2.2.2.2.2.2.2.2.2.2.1
    have hc2 := hF.2.2.2.2.2.2.2.2.2.2.2.2.2.2.2.2.1
    have hc3 := hF.2.2.2.2.2.2.2.2.2.2.2.2.2.2.2.2.2.1
    have hc4 := hF.2.2.2.2.2.2.2.2.2.2.2.2.2.2.2.2.2.2.1
    have hc5 := hF.2.2.2.2.2.2.2.2.2.2.2.2.2.2.2.2.2.2.2.1
    have hc6 := hF.2.2.2.2.2.2.2.2.2.2.2.2.2.2.2.2.2.2.2.2.1
    have hc7 := hF.2.2.2.2.2.2.2.2.2.2.2.2.2.2.2.2.2.2.2.2.2
    have htr := hW.1
    have htl := hW.2.1
    have hy0 := hN.1
    have hy3 : (s6_cy u6) 3 = 0 := hy0 3 (by decide)
    have hy4 : (s6_cy u6) 4 = 0 := hy0 4 (by decide)
    have hy5 : (s6_cy u6) 5 = 0 := hy0 5 (by decide)
    have hy6 : (s6_cy u6) 6 = 0 := hy0 6 (by decide)
    refine ⟨(wrI (W6 E x (((s6_g u6), (s6_xa u6), (s6_ra u6), (s6_caz u6), (s6_ca u6), (s6_pq u6), (s6_fl u6), (if (s6_cy u6) 3 = 0 then 1 else 0)), g6_1 u6, g6_2 u6, g6_3 u6, g6_4 u6, g6_5 u6, g6_6 u6, g6_7 u6, g6_8 u6, g6_9 u6, g6_10 u6)) (if (s6_cy u6) 3 = 0 then (-1) else nI (pop64 (fitN (s6_wt u6))))), (wrI (W8n E k (((s6_g u6), (s6_xa u6), (s6_ra u6), (s6_caz u6), (s6_ca u6), (s6_pq u6), (s6_fl u6), (if (s6_cy u6) 3 = 0 then 1 else 0)), g6_1 u6, g6_2 u6, g6_3 u6, g6_4 u6, g6_5 u6, g6_6 u6, g6_7 u6, g6_8 u6, g6_9 u6, g6_10 u6) (((s8_q u8), 0, 1, (-1), (s8_rr u8), (s8_z u8), (s8_nb u8), (s8_wa u8)), g8_1 u8, g8_2 u8, g8_3 u8, g8_4 u8)) ((-1))), Ct.perm hp6.symm (Ct.frI (c_X6_fits l E x (s6_xa u6) (s6_g u6) (s6_tr u6) (s6_fl u6) (s6_pl u6) (s6_cy u6) (s6_ca u6) (s6_hw u6) (s6_wt u6) (by first | assumption | omega) (by first | assumption | omega)) [0, 20, 45, 46] rfl rfl rfl rfl), Ct.perm hp8.symm (Ct.frI (c_X8_fits_n l E k (s8_th u8) (s8_tr8 u8) (s8_wh u8) (s8_rr u8) (s8_q u8) (upN (upN (upN (upN (s8_z u8) 6 (s6_fd u6)) 12 (s6_fl u6)) 19 (s6_ac u6)) 20 (s6_im u6)) (s8_nb u8) (s8_wa u8) (s8_wd u8) (s8_ev u8) (s8_al u8) (s8_wl u8) ) [0] rfl rfl rfl rfl), fun r w h => ⟨_, h.2⟩, ?_⟩
    rintro r w r' w' ⟨rfl, rfl⟩ ⟨rfl, rfl⟩
    exact ⟨congrArg (fun z => some (Value.int z)) (if_pos hy3), Or.inl ⟨(((s6_g u6), (s6_xa u6), (s6_ra u6), (s6_caz u6), (s6_ca u6), (s6_pq u6), (s6_fl u6), (if (s6_cy u6) 3 = 0 then 1 else 0)), g6_1 u6, g6_2 u6, g6_3 u6, g6_4 u6, g6_5 u6, g6_6 u6, g6_7 u6, g6_8 u6, g6_9 u6, g6_10 u6), (((s8_q u8), 0, 1, (-1), (s8_rr u8), (s8_z u8), (s8_nb u8), (s8_wa u8)), g8_1 u8, g8_2 u8, g8_3 u8, g8_4 u8), List.Perm.refl _, List.Perm.refl _, hF, hN, tw_of 1 ((if_pos hy3).symm) (by decide) (by decide)⟩⟩
  · obtain ⟨u6, u8, hp6, hp8, hF, hG, hP, hW⟩ := hv
    have hfd := hF.1
    have hby := hF.2.1
    have hkw := hF.2.2.1
    have h40z := hF.2.2.2.1
    have h40 := hF.2.2.2.2.1
    have hink2 := hF.2.2.2.2.2.1
    have hwt := hF.2.2.2.2.2.2.1
    have hdy := hF.2.2.2.2.2.2.2.1
    have hds := hF.2.2.2.2.2.2.2.2.1
    have hink := hF.2.2.2.2.2.2.2.2.2.1
    have ht := hF.2.2.2.2.2.2.2.2.2.2.1
    have ho := hF.2.2.2.2.2.2.2.2.2.2.2.1
    have hac := hF.2.2.2.2.2.2.2.2.2.2.2.2.1
    have him := hF.2.2.2.2.2.2.2.2.2.2.2.2.2.1
    have hc0 := hF.2.2.2.2.2.2.2.2.2.2.2.2.2.2.1
    have hc1 := hF.2.2.2.2.2.2.2.2.2.2.2.2.2.2.2.1
    have hc2 := hF.2.2.2.2.2.2.2.2.2.2.2.2.2.2.2.2.1
    have hc3 := hF.2.2.2.2.2.2.2.2.2.2.2.2.2.2.2.2.2.1
    have hc4 := hF.2.2.2.2.2.2.2.2.2.2.2.2.2.2.2.2.2.2.1
    have hc5 := hF.2.2.2.2.2.2.2.2.2.2.2.2.2.2.2.2.2.2.2.1
    have hc6 := hF.2.2.2.2.2.2.2.2.2.2.2.2.2.2.2.2.2.2.2.2.1
    have hc7 := hF.2.2.2.2.2.2.2.2.2.2.2.2.2.2.2.2.2.2.2.2.2
    have htr := hW.1
    have htl := hW.2.1
    have hgb := g8_b hc4 hc5 hc7 hG
    have hfo := hgb.1
    have hon := hgb.2.1
    have htw := hgb.2.2.1
    have hFs := hgb.2.2.2.1
    have hFt := hgb.2.2.2.2.1
    have hik := hgb.2.2.2.2.2.1
    have hun := hgb.2.2.2.2.2.2.1
    have hdi := hgb.2.2.2.2.2.2.2.1
    have hd2 := hgb.2.2.2.2.2.2.2.2.1
    have hd3 := hgb.2.2.2.2.2.2.2.2.2.1
    have hkp := hgb.2.2.2.2.2.2.2.2.2.2.1
    have hm1 := hgb.2.2.2.2.2.2.2.2.2.2.2.1
    have hal_ := hgb.2.2.2.2.2.2.2.2.2.2.2.2
    have hal := hal_ (s6_t u6)
    have hz : ∀ c, (s6_cy u6) 5 ≤ c → (s6_ink u6) c = 0 := hP.1.2.1
    have hmz : ∀ c, (s6_cy u6) 5 ≤ c → (s6_mn u6) c = -1 := hP.1.2.2.1
    have hdd9 : (s6_dd u6) ≤ 999 := hP.1.2.2.2.2
    have hw8 := w8_e hG
    have h30 : ¬ (s6_cy u6) 3 = 0 := by omega
    refine ⟨(wrI (W6 E x (((s6_g u6), (s6_xa u6), (s6_ra u6), (s6_caz u6), (s6_ca u6), (s6_pq u6), (s6_fl u6), (if (s6_cy u6) 3 = 0 then 1 else 0)), g6_1 u6, g6_2 u6, g6_3 u6, g6_4 u6, g6_5 u6, g6_6 u6, g6_7 u6, g6_8 u6, g6_9 u6, g6_10 u6)) (if (s6_cy u6) 3 = 0 then (-1) else nI (pop64 (fitN (s6_wt u6))))), (jwrI (fun jp => W8c E k (((s6_g u6), (s6_xa u6), (s6_ra u6), (s6_caz u6), (s6_ca u6), (s6_pq u6), (s6_fl u6), (if (s6_cy u6) 3 = 0 then 1 else 0)), g6_1 u6, g6_2 u6, g6_3 u6, g6_4 u6, g6_5 u6, g6_6 u6, g6_7 u6, g6_8 u6, g6_9 u6, g6_10 u6) (((s8_q u8), 0, 0, (-1), (s8_rr u8), (upN (s8_z u8) 25 (cnt (fun s => decide (0 < wt8 (s6_cy u6) (s6_Fs u6) (s6_Ft u6) (s8_d1 u8) (s8_d2_ u8) (s8_d3 u8) (s8_kp u8) (s8_gm u8) (s8_gi u8) (s8_un u8) s)) (2 ^ (s6_cy u6) 6))), (s8_nb u8), (s8_wa u8)), ((s8_wd u8), (s8_ev u8), (s8_al u8), (s8_wl u8), jp, (s8_pp u8), (s8_pj8 u8), (s8_ke u8)), ((s8_g2 u8), (s8_hv u8), (fun k => if k < (s6_cy u6) 6 then cnt (fun s => decide (0 < wt8 (s6_cy u6) (s6_Fs u6) (s6_Ft u6) (s8_d1 u8) (s8_d2_ u8) (s8_d3 u8) (s8_kp u8) (s8_gm u8) (s8_gi u8) (s8_un u8) s) && s.testBit k) (2 ^ (s6_cy u6) 6) else 0), (s8_vf u8), (s8_g8 u8), (s8_cb u8), (s8_kp u8), (s8_nc u8)), g8_3 u8, g8_4 u8)) (nI (pop64 (fitN (wt8 (s6_cy u6) (s6_Fs u6) (s6_Ft u6) (s8_d1 u8) (s8_d2_ u8) (s8_d3 u8) (s8_kp u8) (s8_gm u8) (s8_gi u8) (s8_un u8)))))), Ct.perm hp6.symm (Ct.frI (c_X6_fits l E x (s6_xa u6) (s6_g u6) (s6_tr u6) (s6_fl u6) (s6_pl u6) (s6_cy u6) (s6_ca u6) (s6_hw u6) (s6_wt u6) (by first | assumption | omega) (by first | assumption | omega)) [0, 20, 45, 46] rfl rfl rfl rfl), Ct.perm hp8.symm (Ct.fjI (c_X8_fits l E k (s8_th u8) (s8_tr8 u8) (s8_wh u8) (s8_g8 u8) (s8_rr u8) (s8_q u8) (upN (upN (upN (upN (s8_z u8) 6 (s6_fd u6)) 12 (s6_fl u6)) 19 (s6_ac u6)) 20 (s6_im u6)) (s8_nb u8) (s8_wa u8) (s8_wd u8) (s8_ev u8) (s8_al u8) (s8_wl u8) (s6_cy u6) (s8_kp u8) (s8_nc u8) (s8_cb u8) (s8_gm u8) (s8_gi u8) (s8_gf u8) (s8_go_ u8) (s8_gt_ u8) (s8_un u8) (s8_d1 u8) (s8_d2_ u8) (s8_d3 u8) (s8_xf u8) (s6_Fs u6) (s6_Ft u6) ((s8_z u8) 25) (s8_ti u8) (by first | assumption | omega) (by first | assumption | omega) (by first | assumption | omega) (by first | assumption | omega) (by first | assumption | omega) (by first | assumption | omega) (by first | assumption | omega) (by first | assumption | omega) (by first | assumption | omega) (by first | assumption | omega) (by first | assumption | omega) (by first | assumption | omega) (by first | assumption | omega) (by first | assumption | omega) (by first | assumption | omega) (by first | assumption | omega) (by first | assumption | omega)) [0, 10, 11, 12, 13, 14, 15, 16, 17, 18, 19, 3, 9] rfl rfl (fun _ => rfl) (fun _ => rfl)), fun r w h => ⟨_, h.2⟩, ?_⟩
    rintro r w r' w' ⟨rfl, rfl⟩ ⟨⟨jp, rfl⟩, rfl⟩
    exact ⟨congrArg (fun z => some (Value.int z)) ((if_neg h30).trans (by rw [hw8])), Or.inr ⟨(((s6_g u6), (s6_xa u6), (s6_ra u6), (s6_caz u6), (s6_ca u6), (s6_pq u6), (s6_fl u6), (if (s6_cy u6) 3 = 0 then 1 else 0)), g6_1 u6, g6_2 u6, g6_3 u6, g6_4 u6, g6_5 u6, g6_6 u6, g6_7 u6, g6_8 u6, g6_9 u6, g6_10 u6), (((s8_q u8), 0, 0, (-1), (s8_rr u8), (upN (s8_z u8) 25 (cnt (fun s => decide (0 < wt8 (s6_cy u6) (s6_Fs u6) (s6_Ft u6) (s8_d1 u8) (s8_d2_ u8) (s8_d3 u8) (s8_kp u8) (s8_gm u8) (s8_gi u8) (s8_un u8) s)) (2 ^ (s6_cy u6) 6))), (s8_nb u8), (s8_wa u8)), ((s8_wd u8), (s8_ev u8), (s8_al u8), (s8_wl u8), jp, (s8_pp u8), (s8_pj8 u8), (s8_ke u8)), ((s8_g2 u8), (s8_hv u8), (fun k => if k < (s6_cy u6) 6 then cnt (fun s => decide (0 < wt8 (s6_cy u6) (s6_Fs u6) (s6_Ft u6) (s8_d1 u8) (s8_d2_ u8) (s8_d3 u8) (s8_kp u8) (s8_gm u8) (s8_gi u8) (s8_un u8) s) && s.testBit k) (2 ^ (s6_cy u6) 6) else 0), (s8_vf u8), (s8_g8 u8), (s8_cb u8), (s8_kp u8), (s8_nc u8)), g8_3 u8, g8_4 u8), List.Perm.refl _, List.Perm.refl _, hF, hG, hP, tw_of 0 ((if_neg h30).symm) (by decide) (by decide)⟩⟩
set_option maxRecDepth 100000 in
set_option maxHeartbeats 4000000 in
theorem op_likeliest (l : Launch) (E : Et) (x k : Nat)  : OpI E x k (fun w P => Ct l E yX6_likeliest cX6_likeliest 1 (some .int) 6 0 0 [.ref x] w P) (fun w P => Ct l E yX8_likeliest cX8_likeliest 7 (some .int) 5 0 0 [.ref k] w P) := by
  intro w6 w8 hv
  rcases hv with hv | hv
  · obtain ⟨u6, u8, hp6, hp8, hF, hN, hW⟩ := hv
    have hfd := hF.1
    have hby := hF.2.1
    have hkw := hF.2.2.1
    have h40z := hF.2.2.2.1
    have h40 := hF.2.2.2.2.1
    have hink2 := hF.2.2.2.2.2.1
    have hwt := hF.2.2.2.2.2.2.1
    have hdy := hF.2.2.2.2.2.2.2.1
    have hds := hF.2.2.2.2.2.2.2.2.1
    have hink := hF.2.2.2.2.2.2.2.2.2.1
    have ht := hF.2.2.2.2.2.2.2.2.2.2.1
    have ho := hF.2.2.2.2.2.2.2.2.2.2.2.1
    have hac := hF.2.2.2.2.2.2.2.2.2.2.2.2.1
    have him := hF.2.2.2.2.2.2.2.2.2.2.2.2.2.1
    have hc0 := hF.2.2.2.2.2.2.2.2.2.2.2.2.2.2.1
    have hc1 := hF.2.2.2.2.2.2.2.2.2.2.2.2.2.2.2.1
    have hc2 := hF.2.2.2.2.2.2.2.2.2.2.2.2.2.2.2.2.1
    have hc3 := hF.2.2.2.2.2.2.2.2.2.2.2.2.2.2.2.2.2.1
    have hc4 := hF.2.2.2.2.2.2.2.2.2.2.2.2.2.2.2.2.2.2.1
    have hc5 := hF.2.2.2.2.2.2.2.2.2.2.2.2.2.2.2.2.2.2.2.1
    have hc6 := hF.2.2.2.2.2.2.2.2.2.2.2.2.2.2.2.2.2.2.2.2.1
    have hc7 := hF.2.2.2.2.2.2.2.2.2.2.2.2.2.2.2.2.2.2.2.2.2
    have htr := hW.1
    have htl := hW.2.1
    have hy0 := hN.1
    have hy3 : (s6_cy u6) 3 = 0 := hy0 3 (by decide)
    have hy4 : (s6_cy u6) 4 = 0 := hy0 4 (by decide)
    have hy5 : (s6_cy u6) 5 = 0 := hy0 5 (by decide)
    have hy6 : (s6_cy u6) 6 = 0 := hy0 6 (by decide)
    refine ⟨(wrI (W6 E x (((s6_g u6), (s6_xa u6), (s6_ra u6), (s6_caz u6), (s6_ca u6), (s6_pq u6), (s6_fl u6), (if (s6_cy u6) 3 = 0 then 1 else 0)), g6_1 u6, g6_2 u6, g6_3 u6, g6_4 u6, g6_5 u6, g6_6 u6, g6_7 u6, g6_8 u6, g6_9 u6, g6_10 u6)) (if (s6_cy u6) 3 = 0 then (-1) else (likF (s6_wt u6) 32).1)), (wrI (W8n E k (((s6_g u6), (s6_xa u6), (s6_ra u6), (s6_caz u6), (s6_ca u6), (s6_pq u6), (s6_fl u6), (if (s6_cy u6) 3 = 0 then 1 else 0)), g6_1 u6, g6_2 u6, g6_3 u6, g6_4 u6, g6_5 u6, g6_6 u6, g6_7 u6, g6_8 u6, g6_9 u6, g6_10 u6) (((s8_q u8), 0, 1, (-1), (s8_rr u8), (s8_z u8), (s8_nb u8), (s8_wa u8)), g8_1 u8, g8_2 u8, g8_3 u8, g8_4 u8)) ((-1))), Ct.perm hp6.symm (Ct.frI (c_X6_likeliest l E x (s6_xa u6) (s6_g u6) (s6_tr u6) (s6_fl u6) (s6_pl u6) (s6_cy u6) (s6_ca u6) (s6_hw u6) (s6_wt u6) (by first | assumption | omega) (by first | assumption | omega)) [0, 20, 45, 46] rfl rfl rfl rfl), Ct.perm hp8.symm (Ct.frI (c_X8_likeliest_n l E k (s8_th u8) (s8_tr8 u8) (s8_wh u8) (s8_rr u8) (s8_q u8) (upN (upN (upN (upN (s8_z u8) 6 (s6_fd u6)) 12 (s6_fl u6)) 19 (s6_ac u6)) 20 (s6_im u6)) (s8_nb u8) (s8_wa u8) (s8_wd u8) (s8_ev u8) (s8_al u8) (s8_wl u8) ) [0] rfl rfl rfl rfl), fun r w h => ⟨_, h.2⟩, ?_⟩
    rintro r w r' w' ⟨rfl, rfl⟩ ⟨rfl, rfl⟩
    exact ⟨congrArg (fun z => some (Value.int z)) (if_pos hy3), Or.inl ⟨(((s6_g u6), (s6_xa u6), (s6_ra u6), (s6_caz u6), (s6_ca u6), (s6_pq u6), (s6_fl u6), (if (s6_cy u6) 3 = 0 then 1 else 0)), g6_1 u6, g6_2 u6, g6_3 u6, g6_4 u6, g6_5 u6, g6_6 u6, g6_7 u6, g6_8 u6, g6_9 u6, g6_10 u6), (((s8_q u8), 0, 1, (-1), (s8_rr u8), (s8_z u8), (s8_nb u8), (s8_wa u8)), g8_1 u8, g8_2 u8, g8_3 u8, g8_4 u8), List.Perm.refl _, List.Perm.refl _, hF, hN, tw_of 1 ((if_pos hy3).symm) (by decide) (by decide)⟩⟩
  · obtain ⟨u6, u8, hp6, hp8, hF, hG, hP, hW⟩ := hv
    have hfd := hF.1
    have hby := hF.2.1
    have hkw := hF.2.2.1
    have h40z := hF.2.2.2.1
    have h40 := hF.2.2.2.2.1
    have hink2 := hF.2.2.2.2.2.1
    have hwt := hF.2.2.2.2.2.2.1
    have hdy := hF.2.2.2.2.2.2.2.1
    have hds := hF.2.2.2.2.2.2.2.2.1
    have hink := hF.2.2.2.2.2.2.2.2.2.1
    have ht := hF.2.2.2.2.2.2.2.2.2.2.1
    have ho := hF.2.2.2.2.2.2.2.2.2.2.2.1
    have hac := hF.2.2.2.2.2.2.2.2.2.2.2.2.1
    have him := hF.2.2.2.2.2.2.2.2.2.2.2.2.2.1
    have hc0 := hF.2.2.2.2.2.2.2.2.2.2.2.2.2.2.1
    have hc1 := hF.2.2.2.2.2.2.2.2.2.2.2.2.2.2.2.1
    have hc2 := hF.2.2.2.2.2.2.2.2.2.2.2.2.2.2.2.2.1
    have hc3 := hF.2.2.2.2.2.2.2.2.2.2.2.2.2.2.2.2.2.1
    have hc4 := hF.2.2.2.2.2.2.2.2.2.2.2.2.2.2.2.2.2.2.1
    have hc5 := hF.2.2.2.2.2.2.2.2.2.2.2.2.2.2.2.2.2.2.2.1
    have hc6 := hF.2.2.2.2.2.2.2.2.2.2.2.2.2.2.2.2.2.2.2.2.1
    have hc7 := hF.2.2.2.2.2.2.2.2.2.2.2.2.2.2.2.2.2.2.2.2.2
    have htr := hW.1
    have htl := hW.2.1
    have hgb := g8_b hc4 hc5 hc7 hG
    have hfo := hgb.1
    have hon := hgb.2.1
    have htw := hgb.2.2.1
    have hFs := hgb.2.2.2.1
    have hFt := hgb.2.2.2.2.1
    have hik := hgb.2.2.2.2.2.1
    have hun := hgb.2.2.2.2.2.2.1
    have hdi := hgb.2.2.2.2.2.2.2.1
    have hd2 := hgb.2.2.2.2.2.2.2.2.1
    have hd3 := hgb.2.2.2.2.2.2.2.2.2.1
    have hkp := hgb.2.2.2.2.2.2.2.2.2.2.1
    have hm1 := hgb.2.2.2.2.2.2.2.2.2.2.2.1
    have hal_ := hgb.2.2.2.2.2.2.2.2.2.2.2.2
    have hal := hal_ (s6_t u6)
    have hz : ∀ c, (s6_cy u6) 5 ≤ c → (s6_ink u6) c = 0 := hP.1.2.1
    have hmz : ∀ c, (s6_cy u6) 5 ≤ c → (s6_mn u6) c = -1 := hP.1.2.2.1
    have hdd9 : (s6_dd u6) ≤ 999 := hP.1.2.2.2.2
    have hw8 := w8_e hG
    have h30 : ¬ (s6_cy u6) 3 = 0 := by omega
    refine ⟨(wrI (W6 E x (((s6_g u6), (s6_xa u6), (s6_ra u6), (s6_caz u6), (s6_ca u6), (s6_pq u6), (s6_fl u6), (if (s6_cy u6) 3 = 0 then 1 else 0)), g6_1 u6, g6_2 u6, g6_3 u6, g6_4 u6, g6_5 u6, g6_6 u6, g6_7 u6, g6_8 u6, g6_9 u6, g6_10 u6)) (if (s6_cy u6) 3 = 0 then (-1) else (likF (s6_wt u6) 32).1)), (jwrI (fun jp => W8c E k (((s6_g u6), (s6_xa u6), (s6_ra u6), (s6_caz u6), (s6_ca u6), (s6_pq u6), (s6_fl u6), (if (s6_cy u6) 3 = 0 then 1 else 0)), g6_1 u6, g6_2 u6, g6_3 u6, g6_4 u6, g6_5 u6, g6_6 u6, g6_7 u6, g6_8 u6, g6_9 u6, g6_10 u6) (((s8_q u8), 0, 0, (-1), (s8_rr u8), (s8_z u8), (s8_nb u8), (s8_wa u8)), ((s8_wd u8), (s8_ev u8), (s8_al u8), (s8_wl u8), jp, (s8_pp u8), (s8_pj8 u8), (s8_ke u8)), g8_2 u8, g8_3 u8, g8_4 u8)) ((likF (wt8 (s6_cy u6) (s6_Fs u6) (s6_Ft u6) (s8_d1 u8) (s8_d2_ u8) (s8_d3 u8) (s8_kp u8) (s8_gm u8) (s8_gi u8) (s8_un u8)) 32).1)), Ct.perm hp6.symm (Ct.frI (c_X6_likeliest l E x (s6_xa u6) (s6_g u6) (s6_tr u6) (s6_fl u6) (s6_pl u6) (s6_cy u6) (s6_ca u6) (s6_hw u6) (s6_wt u6) (by first | assumption | omega) (by first | assumption | omega)) [0, 20, 45, 46] rfl rfl rfl rfl), Ct.perm hp8.symm (Ct.fjI (c_X8_likeliest l E k (s8_th u8) (s8_tr8 u8) (s8_wh u8) (s8_g8 u8) (s8_rr u8) (s8_q u8) (upN (upN (upN (upN (s8_z u8) 6 (s6_fd u6)) 12 (s6_fl u6)) 19 (s6_ac u6)) 20 (s6_im u6)) (s8_nb u8) (s8_wa u8) (s8_wd u8) (s8_ev u8) (s8_al u8) (s8_wl u8) (s6_cy u6) (s8_kp u8) (s8_nc u8) (s8_cb u8) (s8_gm u8) (s8_gi u8) (s8_gf u8) (s8_go_ u8) (s8_gt_ u8) (s8_un u8) (s8_d1 u8) (s8_d2_ u8) (s8_d3 u8) (s8_xf u8) (s6_Fs u6) (s6_Ft u6) (by first | assumption | omega) (by first | assumption | omega) (by first | assumption | omega) (by first | assumption | omega) (by first | assumption | omega) (by first | assumption | omega) (by first | assumption | omega) (by first | assumption | omega) (by first | assumption | omega) (by first | assumption | omega) (by first | assumption | omega) (by first | assumption | omega) (by first | assumption | omega) (by first | assumption | omega) (by first | assumption | omega) (by first | assumption | omega) (by first | assumption | omega)) [0, 10, 11, 12, 13, 14, 15, 16, 17, 18, 19, 3] rfl rfl (fun _ => rfl) (fun _ => rfl)), fun r w h => ⟨_, h.2⟩, ?_⟩
    rintro r w r' w' ⟨rfl, rfl⟩ ⟨⟨jp, rfl⟩, rfl⟩
    exact ⟨congrArg (fun z => some (Value.int z)) ((if_neg h30).trans (by rw [hw8])), Or.inr ⟨(((s6_g u6), (s6_xa u6), (s6_ra u6), (s6_caz u6), (s6_ca u6), (s6_pq u6), (s6_fl u6), (if (s6_cy u6) 3 = 0 then 1 else 0)), g6_1 u6, g6_2 u6, g6_3 u6, g6_4 u6, g6_5 u6, g6_6 u6, g6_7 u6, g6_8 u6, g6_9 u6, g6_10 u6), (((s8_q u8), 0, 0, (-1), (s8_rr u8), (s8_z u8), (s8_nb u8), (s8_wa u8)), ((s8_wd u8), (s8_ev u8), (s8_al u8), (s8_wl u8), jp, (s8_pp u8), (s8_pj8 u8), (s8_ke u8)), g8_2 u8, g8_3 u8, g8_4 u8), List.Perm.refl _, List.Perm.refl _, hF, hG, hP, tw_of 0 ((if_neg h30).symm) (by decide) (by decide)⟩⟩
set_option maxRecDepth 100000 in
set_option maxHeartbeats 4000000 in
theorem op_ask (l : Launch) (E : Et) (x k : Nat)  : OpI E x k (fun w P => Ct l E yX6_ask cX6_ask 1 (some .int) 6 0 0 [.ref x] w P) (fun w P => Ct l E yX8_ask cX8_ask 1 (some .int) 6 0 0 [.ref k] w P) := by
  intro w6 w8 hv
  rcases hv with hv | hv
  · obtain ⟨u6, u8, hp6, hp8, hF, hN, hW⟩ := hv
    have hfd := hF.1
    have hby := hF.2.1
    have hkw := hF.2.2.1
    have h40z := hF.2.2.2.1
    have h40 := hF.2.2.2.2.1
    have hink2 := hF.2.2.2.2.2.1
    have hwt := hF.2.2.2.2.2.2.1
    have hdy := hF.2.2.2.2.2.2.2.1
    have hds := hF.2.2.2.2.2.2.2.2.1
    have hink := hF.2.2.2.2.2.2.2.2.2.1
    have ht := hF.2.2.2.2.2.2.2.2.2.2.1
    have ho := hF.2.2.2.2.2.2.2.2.2.2.2.1
    have hac := hF.2.2.2.2.2.2.2.2.2.2.2.2.1
    have him := hF.2.2.2.2.2.2.2.2.2.2.2.2.2.1
    have hc0 := hF.2.2.2.2.2.2.2.2.2.2.2.2.2.2.1
    have hc1 := hF.2.2.2.2.2.2.2.2.2.2.2.2.2.2.2.1
    have hc2 := hF.2.2.2.2.2.2.2.2.2.2.2.2.2.2.2.2.1
    have hc3 := hF.2.2.2.2.2.2.2.2.2.2.2.2.2.2.2.2.2.1
    have hc4 := hF.2.2.2.2.2.2.2.2.2.2.2.2.2.2.2.2.2.2.1
    have hc5 := hF.2.2.2.2.2.2.2.2.2.2.2.2.2.2.2.2.2.2.2.1
    have hc6 := hF.2.2.2.2.2.2.2.2.2.2.2.2.2.2.2.2.2.2.2.2.1
    have hc7 := hF.2.2.2.2.2.2.2.2.2.2.2.2.2.2.2.2.2.2.2.2.2
    have htr := hW.1
    have htl := hW.2.1
    have hy0 := hN.1
    have hy3 : (s6_cy u6) 3 = 0 := hy0 3 (by decide)
    have hy4 : (s6_cy u6) 4 = 0 := hy0 4 (by decide)
    have hy5 : (s6_cy u6) 5 = 0 := hy0 5 (by decide)
    have hy6 : (s6_cy u6) 6 = 0 := hy0 6 (by decide)
    refine ⟨(wrI (W6 E x (((s6_g u6), (s6_xa u6), (s6_ra u6), (s6_caz u6), (s6_ca u6), (s6_pq u6), (s6_fl u6), (if (s6_cy u6) 3 = 0 then 1 else 0)), g6_1 u6, g6_2 u6, g6_3 u6, g6_4 u6, g6_5 u6, g6_6 u6, g6_7 u6, g6_8 u6, g6_9 u6, g6_10 u6)) (if (s6_cy u6) 3 = 0 then (-1) else optI (askA (s6_wt u6) ((s6_cy u6) 6)))), (wrI (W8n E k (((s6_g u6), (s6_xa u6), (s6_ra u6), (s6_caz u6), (s6_ca u6), (s6_pq u6), (s6_fl u6), (if (s6_cy u6) 3 = 0 then 1 else 0)), g6_1 u6, g6_2 u6, g6_3 u6, g6_4 u6, g6_5 u6, g6_6 u6, g6_7 u6, g6_8 u6, g6_9 u6, g6_10 u6) (((s8_q u8), 0, 1, (-1), (s8_rr u8), (s8_z u8), (s8_nb u8), (s8_wa u8)), g8_1 u8, g8_2 u8, g8_3 u8, g8_4 u8)) ((-1))), Ct.perm hp6.symm (Ct.frI (c_X6_ask l E x (s6_xa u6) (s6_g u6) (s6_tr u6) (s6_fl u6) (s6_pl u6) (s6_cy u6) (s6_ca u6) (s6_hw u6) (s6_wt u6) (by first | assumption | omega) (by first | assumption | omega) (by first | assumption | omega)) [0, 20, 45, 46] rfl rfl rfl rfl), Ct.perm hp8.symm (Ct.frI (c_X8_ask_n l E k (s8_th u8) (s8_tr8 u8) (s8_wh u8) (s8_rr u8) (s8_q u8) (upN (upN (upN (upN (s8_z u8) 6 (s6_fd u6)) 12 (s6_fl u6)) 19 (s6_ac u6)) 20 (s6_im u6)) (s8_nb u8) (s8_wa u8) (s8_wd u8) (s8_ev u8) (s8_al u8) (s8_wl u8) ) [0] rfl rfl rfl rfl), fun r w h => ⟨_, h.2⟩, ?_⟩
    rintro r w r' w' ⟨rfl, rfl⟩ ⟨rfl, rfl⟩
    exact ⟨congrArg (fun z => some (Value.int z)) (if_pos hy3), Or.inl ⟨(((s6_g u6), (s6_xa u6), (s6_ra u6), (s6_caz u6), (s6_ca u6), (s6_pq u6), (s6_fl u6), (if (s6_cy u6) 3 = 0 then 1 else 0)), g6_1 u6, g6_2 u6, g6_3 u6, g6_4 u6, g6_5 u6, g6_6 u6, g6_7 u6, g6_8 u6, g6_9 u6, g6_10 u6), (((s8_q u8), 0, 1, (-1), (s8_rr u8), (s8_z u8), (s8_nb u8), (s8_wa u8)), g8_1 u8, g8_2 u8, g8_3 u8, g8_4 u8), List.Perm.refl _, List.Perm.refl _, hF, hN, tw_of 1 ((if_pos hy3).symm) (by decide) (by decide)⟩⟩
  · obtain ⟨u6, u8, hp6, hp8, hF, hG, hP, hW⟩ := hv
    have hfd := hF.1
    have hby := hF.2.1
    have hkw := hF.2.2.1
    have h40z := hF.2.2.2.1
    have h40 := hF.2.2.2.2.1
    have hink2 := hF.2.2.2.2.2.1
    have hwt := hF.2.2.2.2.2.2.1
    have hdy := hF.2.2.2.2.2.2.2.1
    have hds := hF.2.2.2.2.2.2.2.2.1
    have hink := hF.2.2.2.2.2.2.2.2.2.1
    have ht := hF.2.2.2.2.2.2.2.2.2.2.1
    have ho := hF.2.2.2.2.2.2.2.2.2.2.2.1
    have hac := hF.2.2.2.2.2.2.2.2.2.2.2.2.1
    have him := hF.2.2.2.2.2.2.2.2.2.2.2.2.2.1
    have hc0 := hF.2.2.2.2.2.2.2.2.2.2.2.2.2.2.1
    have hc1 := hF.2.2.2.2.2.2.2.2.2.2.2.2.2.2.2.1
    have hc2 := hF.2.2.2.2.2.2.2.2.2.2.2.2.2.2.2.2.1
    have hc3 := hF.2.2.2.2.2.2.2.2.2.2.2.2.2.2.2.2.2.1
    have hc4 := hF.2.2.2.2.2.2.2.2.2.2.2.2.2.2.2.2.2.2.1
    have hc5 := hF.2.2.2.2.2.2.2.2.2.2.2.2.2.2.2.2.2.2.2.1
    have hc6 := hF.2.2.2.2.2.2.2.2.2.2.2.2.2.2.2.2.2.2.2.2.1
    have hc7 := hF.2.2.2.2.2.2.2.2.2.2.2.2.2.2.2.2.2.2.2.2.2
    have htr := hW.1
    have htl := hW.2.1
    have hgb := g8_b hc4 hc5 hc7 hG
    have hfo := hgb.1
    have hon := hgb.2.1
    have htw := hgb.2.2.1
    have hFs := hgb.2.2.2.1
    have hFt := hgb.2.2.2.2.1
    have hik := hgb.2.2.2.2.2.1
    have hun := hgb.2.2.2.2.2.2.1
    have hdi := hgb.2.2.2.2.2.2.2.1
    have hd2 := hgb.2.2.2.2.2.2.2.2.1
    have hd3 := hgb.2.2.2.2.2.2.2.2.2.1
    have hkp := hgb.2.2.2.2.2.2.2.2.2.2.1
    have hm1 := hgb.2.2.2.2.2.2.2.2.2.2.2.1
    have hal_ := hgb.2.2.2.2.2.2.2.2.2.2.2.2
    have hal := hal_ (s6_t u6)
    have hz : ∀ c, (s6_cy u6) 5 ≤ c → (s6_ink u6) c = 0 := hP.1.2.1
    have hmz : ∀ c, (s6_cy u6) 5 ≤ c → (s6_mn u6) c = -1 := hP.1.2.2.1
    have hdd9 : (s6_dd u6) ≤ 999 := hP.1.2.2.2.2
    have hw8 := w8_e hG
    have h30 : ¬ (s6_cy u6) 3 = 0 := by omega
    refine ⟨(wrI (W6 E x (((s6_g u6), (s6_xa u6), (s6_ra u6), (s6_caz u6), (s6_ca u6), (s6_pq u6), (s6_fl u6), (if (s6_cy u6) 3 = 0 then 1 else 0)), g6_1 u6, g6_2 u6, g6_3 u6, g6_4 u6, g6_5 u6, g6_6 u6, g6_7 u6, g6_8 u6, g6_9 u6, g6_10 u6)) (if (s6_cy u6) 3 = 0 then (-1) else optI (askA (s6_wt u6) ((s6_cy u6) 6)))), (jwrI (fun jp => W8c E k (((s6_g u6), (s6_xa u6), (s6_ra u6), (s6_caz u6), (s6_ca u6), (s6_pq u6), (s6_fl u6), (if (s6_cy u6) 3 = 0 then 1 else 0)), g6_1 u6, g6_2 u6, g6_3 u6, g6_4 u6, g6_5 u6, g6_6 u6, g6_7 u6, g6_8 u6, g6_9 u6, g6_10 u6) (((s8_q u8), 0, 0, (-1), (s8_rr u8), (upN (s8_z u8) 25 (cnt (fun s => decide (0 < wt8 (s6_cy u6) (s6_Fs u6) (s6_Ft u6) (s8_d1 u8) (s8_d2_ u8) (s8_d3 u8) (s8_kp u8) (s8_gm u8) (s8_gi u8) (s8_un u8) s)) (2 ^ (s6_cy u6) 6))), (s8_nb u8), (s8_wa u8)), ((s8_wd u8), (s8_ev u8), (alV (lam (wt8 (s6_cy u6) (s6_Fs u6) (s6_Ft u6) (s8_d1 u8) (s8_d2_ u8) (s8_d3 u8) (s8_kp u8) (s8_gm u8) (s8_gi u8) (s8_un u8))) (askA (wt8 (s6_cy u6) (s6_Fs u6) (s6_Ft u6) (s8_d1 u8) (s8_d2_ u8) (s8_d3 u8) (s8_kp u8) (s8_gm u8) (s8_gi u8) (s8_un u8)) ((s6_cy u6) 6))), (s8_wl u8), jp, (s8_pp u8), (s8_pj8 u8), (s8_ke u8)), ((s8_g2 u8), (s8_hv u8), (fun k => if k < (s6_cy u6) 6 then cnt (fun s => decide (0 < wt8 (s6_cy u6) (s6_Fs u6) (s6_Ft u6) (s8_d1 u8) (s8_d2_ u8) (s8_d3 u8) (s8_kp u8) (s8_gm u8) (s8_gi u8) (s8_un u8) s) && s.testBit k) (2 ^ (s6_cy u6) 6) else 0), (s8_vf u8), (s8_g8 u8), (s8_cb u8), (s8_kp u8), (s8_nc u8)), g8_3 u8, g8_4 u8)) (optI (askA (wt8 (s6_cy u6) (s6_Fs u6) (s6_Ft u6) (s8_d1 u8) (s8_d2_ u8) (s8_d3 u8) (s8_kp u8) (s8_gm u8) (s8_gi u8) (s8_un u8)) ((s6_cy u6) 6)))), Ct.perm hp6.symm (Ct.frI (c_X6_ask l E x (s6_xa u6) (s6_g u6) (s6_tr u6) (s6_fl u6) (s6_pl u6) (s6_cy u6) (s6_ca u6) (s6_hw u6) (s6_wt u6) (by first | assumption | omega) (by first | assumption | omega) (by first | assumption | omega)) [0, 20, 45, 46] rfl rfl rfl rfl), Ct.perm hp8.symm (Ct.fjI (c_X8_ask l E k (s8_th u8) (s8_tr8 u8) (s8_wh u8) (s8_g8 u8) (s8_rr u8) (s8_q u8) (upN (upN (upN (upN (s8_z u8) 6 (s6_fd u6)) 12 (s6_fl u6)) 19 (s6_ac u6)) 20 (s6_im u6)) (s8_nb u8) (s8_wa u8) (s8_wd u8) (s8_ev u8) (s8_al u8) (s8_wl u8) (s6_cy u6) (s8_kp u8) (s8_nc u8) (s8_cb u8) (s8_gm u8) (s8_gi u8) (s8_gf u8) (s8_go_ u8) (s8_gt_ u8) (s8_un u8) (s8_d1 u8) (s8_d2_ u8) (s8_d3 u8) (s8_xf u8) (s6_Fs u6) (s6_Ft u6) ((s8_z u8) 25) (s8_ti u8) (by first | assumption | omega) (by first | assumption | omega) (by first | assumption | omega) (by first | assumption | omega) (by first | assumption | omega) (by first | assumption | omega) (by first | assumption | omega) (by first | assumption | omega) (by first | assumption | omega) (by first | assumption | omega) (by first | assumption | omega) (by first | assumption | omega) (by first | assumption | omega) (by first | assumption | omega) (by first | assumption | omega) (by first | assumption | omega) (by first | assumption | omega)) [0, 10, 11, 12, 13, 14, 15, 16, 17, 18, 19, 3, 9] rfl rfl (fun _ => rfl) (fun _ => rfl)), fun r w h => ⟨_, h.2⟩, ?_⟩
    rintro r w r' w' ⟨rfl, rfl⟩ ⟨⟨jp, rfl⟩, rfl⟩
    exact ⟨congrArg (fun z => some (Value.int z)) ((if_neg h30).trans (by rw [hw8])), Or.inr ⟨(((s6_g u6), (s6_xa u6), (s6_ra u6), (s6_caz u6), (s6_ca u6), (s6_pq u6), (s6_fl u6), (if (s6_cy u6) 3 = 0 then 1 else 0)), g6_1 u6, g6_2 u6, g6_3 u6, g6_4 u6, g6_5 u6, g6_6 u6, g6_7 u6, g6_8 u6, g6_9 u6, g6_10 u6), (((s8_q u8), 0, 0, (-1), (s8_rr u8), (upN (s8_z u8) 25 (cnt (fun s => decide (0 < wt8 (s6_cy u6) (s6_Fs u6) (s6_Ft u6) (s8_d1 u8) (s8_d2_ u8) (s8_d3 u8) (s8_kp u8) (s8_gm u8) (s8_gi u8) (s8_un u8) s)) (2 ^ (s6_cy u6) 6))), (s8_nb u8), (s8_wa u8)), ((s8_wd u8), (s8_ev u8), (alV (lam (wt8 (s6_cy u6) (s6_Fs u6) (s6_Ft u6) (s8_d1 u8) (s8_d2_ u8) (s8_d3 u8) (s8_kp u8) (s8_gm u8) (s8_gi u8) (s8_un u8))) (askA (wt8 (s6_cy u6) (s6_Fs u6) (s6_Ft u6) (s8_d1 u8) (s8_d2_ u8) (s8_d3 u8) (s8_kp u8) (s8_gm u8) (s8_gi u8) (s8_un u8)) ((s6_cy u6) 6))), (s8_wl u8), jp, (s8_pp u8), (s8_pj8 u8), (s8_ke u8)), ((s8_g2 u8), (s8_hv u8), (fun k => if k < (s6_cy u6) 6 then cnt (fun s => decide (0 < wt8 (s6_cy u6) (s6_Fs u6) (s6_Ft u6) (s8_d1 u8) (s8_d2_ u8) (s8_d3 u8) (s8_kp u8) (s8_gm u8) (s8_gi u8) (s8_un u8) s) && s.testBit k) (2 ^ (s6_cy u6) 6) else 0), (s8_vf u8), (s8_g8 u8), (s8_cb u8), (s8_kp u8), (s8_nc u8)), g8_3 u8, g8_4 u8), List.Perm.refl _, List.Perm.refl _, hF, hG, hP, tw_of 0 ((if_neg h30).symm) (by decide) (by decide)⟩⟩
set_option maxRecDepth 100000 in
set_option maxHeartbeats 4000000 in
theorem op_askLeaves (l : Launch) (E : Et) (x k : Nat)  : OpI E x k (fun w P => Ct l E yX6_askLeaves cX6_askLeaves 2 (some .int) 6 0 0 [.ref x] w P) (fun w P => Ct l E yX8_askLeaves cX8_askLeaves 1 (some .int) 6 0 0 [.ref k] w P) := by
  intro w6 w8 hv
  rcases hv with hv | hv
  · obtain ⟨u6, u8, hp6, hp8, hF, hN, hW⟩ := hv
    have hfd := hF.1
    have hby := hF.2.1
    have hkw := hF.2.2.1
    have h40z := hF.2.2.2.1
    have h40 := hF.2.2.2.2.1
    have hink2 := hF.2.2.2.2.2.1
    have hwt := hF.2.2.2.2.2.2.1
    have hdy := hF.2.2.2.2.2.2.2.1
    have hds := hF.2.2.2.2.2.2.2.2.1
    have hink := hF.2.2.2.2.2.2.2.2.2.1
    have ht := hF.2.2.2.2.2.2.2.2.2.2.1
    have ho := hF.2.2.2.2.2.2.2.2.2.2.2.1
    have hac := hF.2.2.2.2.2.2.2.2.2.2.2.2.1
    have him := hF.2.2.2.2.2.2.2.2.2.2.2.2.2.1
    have hc0 := hF.2.2.2.2.2.2.2.2.2.2.2.2.2.2.1
    have hc1 := hF.2.2.2.2.2.2.2.2.2.2.2.2.2.2.2.1
    have hc2 := hF.2.2.2.2.2.2.2.2.2.2.2.2.2.2.2.2.1
    have hc3 := hF.2.2.2.2.2.2.2.2.2.2.2.2.2.2.2.2.2.1
    have hc4 := hF.2.2.2.2.2.2.2.2.2.2.2.2.2.2.2.2.2.2.1
    have hc5 := hF.2.2.2.2.2.2.2.2.2.2.2.2.2.2.2.2.2.2.2.1
    have hc6 := hF.2.2.2.2.2.2.2.2.2.2.2.2.2.2.2.2.2.2.2.2.1
    have hc7 := hF.2.2.2.2.2.2.2.2.2.2.2.2.2.2.2.2.2.2.2.2.2
    have htr := hW.1
    have htl := hW.2.1
    have hy0 := hN.1
    have hy3 : (s6_cy u6) 3 = 0 := hy0 3 (by decide)
    have hy4 : (s6_cy u6) 4 = 0 := hy0 4 (by decide)
    have hy5 : (s6_cy u6) 5 = 0 := hy0 5 (by decide)
    have hy6 : (s6_cy u6) 6 = 0 := hy0 6 (by decide)
    refine ⟨(wrI (W6 E x (((s6_g u6), (s6_xa u6), (s6_ra u6), (s6_caz u6), (s6_ca u6), (s6_pq u6), (s6_fl u6), (if (s6_cy u6) 3 = 0 then 1 else 0)), g6_1 u6, g6_2 u6, g6_3 u6, g6_4 u6, g6_5 u6, g6_6 u6, g6_7 u6, g6_8 u6, g6_9 u6, g6_10 u6)) (if (s6_cy u6) 3 = 0 then (-1) else alV (lam (s6_wt u6)) (askA (s6_wt u6) ((s6_cy u6) 6)))), (wrI (W8n E k (((s6_g u6), (s6_xa u6), (s6_ra u6), (s6_caz u6), (s6_ca u6), (s6_pq u6), (s6_fl u6), (if (s6_cy u6) 3 = 0 then 1 else 0)), g6_1 u6, g6_2 u6, g6_3 u6, g6_4 u6, g6_5 u6, g6_6 u6, g6_7 u6, g6_8 u6, g6_9 u6, g6_10 u6) (((s8_q u8), 0, 1, (-1), (s8_rr u8), (s8_z u8), (s8_nb u8), (s8_wa u8)), g8_1 u8, g8_2 u8, g8_3 u8, g8_4 u8)) ((-1))), Ct.perm hp6.symm (Ct.frI (c_X6_askLeaves l E x (s6_xa u6) (s6_g u6) (s6_tr u6) (s6_fl u6) (s6_pl u6) (s6_cy u6) (s6_ca u6) (s6_hw u6) (s6_wt u6) (by first | assumption | omega) (by first | assumption | omega) (by first | assumption | omega)) [0, 20, 45, 46] rfl rfl rfl rfl), Ct.perm hp8.symm (Ct.frI (c_X8_askLeaves_n l E k (s8_th u8) (s8_tr8 u8) (s8_wh u8) (s8_rr u8) (s8_q u8) (upN (upN (upN (upN (s8_z u8) 6 (s6_fd u6)) 12 (s6_fl u6)) 19 (s6_ac u6)) 20 (s6_im u6)) (s8_nb u8) (s8_wa u8) (s8_wd u8) (s8_ev u8) (s8_al u8) (s8_wl u8) ) [0] rfl rfl rfl rfl), fun r w h => ⟨_, h.2⟩, ?_⟩
    rintro r w r' w' ⟨rfl, rfl⟩ ⟨rfl, rfl⟩
    exact ⟨congrArg (fun z => some (Value.int z)) (if_pos hy3), Or.inl ⟨(((s6_g u6), (s6_xa u6), (s6_ra u6), (s6_caz u6), (s6_ca u6), (s6_pq u6), (s6_fl u6), (if (s6_cy u6) 3 = 0 then 1 else 0)), g6_1 u6, g6_2 u6, g6_3 u6, g6_4 u6, g6_5 u6, g6_6 u6, g6_7 u6, g6_8 u6, g6_9 u6, g6_10 u6), (((s8_q u8), 0, 1, (-1), (s8_rr u8), (s8_z u8), (s8_nb u8), (s8_wa u8)), g8_1 u8, g8_2 u8, g8_3 u8, g8_4 u8), List.Perm.refl _, List.Perm.refl _, hF, hN, tw_of 1 ((if_pos hy3).symm) (by decide) (by decide)⟩⟩
  · obtain ⟨u6, u8, hp6, hp8, hF, hG, hP, hW⟩ := hv
    have hfd := hF.1
    have hby := hF.2.1
    have hkw := hF.2.2.1
    have h40z := hF.2.2.2.1
    have h40 := hF.2.2.2.2.1
    have hink2 := hF.2.2.2.2.2.1
    have hwt := hF.2.2.2.2.2.2.1
    have hdy := hF.2.2.2.2.2.2.2.1
    have hds := hF.2.2.2.2.2.2.2.2.1
    have hink := hF.2.2.2.2.2.2.2.2.2.1
    have ht := hF.2.2.2.2.2.2.2.2.2.2.1
    have ho := hF.2.2.2.2.2.2.2.2.2.2.2.1
    have hac := hF.2.2.2.2.2.2.2.2.2.2.2.2.1
    have him := hF.2.2.2.2.2.2.2.2.2.2.2.2.2.1
    have hc0 := hF.2.2.2.2.2.2.2.2.2.2.2.2.2.2.1
    have hc1 := hF.2.2.2.2.2.2.2.2.2.2.2.2.2.2.2.1
    have hc2 := hF.2.2.2.2.2.2.2.2.2.2.2.2.2.2.2.2.1
    have hc3 := hF.2.2.2.2.2.2.2.2.2.2.2.2.2.2.2.2.2.1
    have hc4 := hF.2.2.2.2.2.2.2.2.2.2.2.2.2.2.2.2.2.2.1
    have hc5 := hF.2.2.2.2.2.2.2.2.2.2.2.2.2.2.2.2.2.2.2.1
    have hc6 := hF.2.2.2.2.2.2.2.2.2.2.2.2.2.2.2.2.2.2.2.2.1
    have hc7 := hF.2.2.2.2.2.2.2.2.2.2.2.2.2.2.2.2.2.2.2.2.2
    have htr := hW.1
    have htl := hW.2.1
    have hgb := g8_b hc4 hc5 hc7 hG
    have hfo := hgb.1
    have hon := hgb.2.1
    have htw := hgb.2.2.1
    have hFs := hgb.2.2.2.1
    have hFt := hgb.2.2.2.2.1
    have hik := hgb.2.2.2.2.2.1
    have hun := hgb.2.2.2.2.2.2.1
    have hdi := hgb.2.2.2.2.2.2.2.1
    have hd2 := hgb.2.2.2.2.2.2.2.2.1
    have hd3 := hgb.2.2.2.2.2.2.2.2.2.1
    have hkp := hgb.2.2.2.2.2.2.2.2.2.2.1
    have hm1 := hgb.2.2.2.2.2.2.2.2.2.2.2.1
    have hal_ := hgb.2.2.2.2.2.2.2.2.2.2.2.2
    have hal := hal_ (s6_t u6)
    have hz : ∀ c, (s6_cy u6) 5 ≤ c → (s6_ink u6) c = 0 := hP.1.2.1
    have hmz : ∀ c, (s6_cy u6) 5 ≤ c → (s6_mn u6) c = -1 := hP.1.2.2.1
    have hdd9 : (s6_dd u6) ≤ 999 := hP.1.2.2.2.2
    have hw8 := w8_e hG
    have h30 : ¬ (s6_cy u6) 3 = 0 := by omega
    refine ⟨(wrI (W6 E x (((s6_g u6), (s6_xa u6), (s6_ra u6), (s6_caz u6), (s6_ca u6), (s6_pq u6), (s6_fl u6), (if (s6_cy u6) 3 = 0 then 1 else 0)), g6_1 u6, g6_2 u6, g6_3 u6, g6_4 u6, g6_5 u6, g6_6 u6, g6_7 u6, g6_8 u6, g6_9 u6, g6_10 u6)) (if (s6_cy u6) 3 = 0 then (-1) else alV (lam (s6_wt u6)) (askA (s6_wt u6) ((s6_cy u6) 6)))), (jwrI (fun jp => W8c E k (((s6_g u6), (s6_xa u6), (s6_ra u6), (s6_caz u6), (s6_ca u6), (s6_pq u6), (s6_fl u6), (if (s6_cy u6) 3 = 0 then 1 else 0)), g6_1 u6, g6_2 u6, g6_3 u6, g6_4 u6, g6_5 u6, g6_6 u6, g6_7 u6, g6_8 u6, g6_9 u6, g6_10 u6) (((s8_q u8), 0, 0, (-1), (s8_rr u8), (upN (s8_z u8) 25 (cnt (fun s => decide (0 < wt8 (s6_cy u6) (s6_Fs u6) (s6_Ft u6) (s8_d1 u8) (s8_d2_ u8) (s8_d3 u8) (s8_kp u8) (s8_gm u8) (s8_gi u8) (s8_un u8) s)) (2 ^ (s6_cy u6) 6))), (s8_nb u8), (s8_wa u8)), ((s8_wd u8), (s8_ev u8), (alV (lam (wt8 (s6_cy u6) (s6_Fs u6) (s6_Ft u6) (s8_d1 u8) (s8_d2_ u8) (s8_d3 u8) (s8_kp u8) (s8_gm u8) (s8_gi u8) (s8_un u8))) (askA (wt8 (s6_cy u6) (s6_Fs u6) (s6_Ft u6) (s8_d1 u8) (s8_d2_ u8) (s8_d3 u8) (s8_kp u8) (s8_gm u8) (s8_gi u8) (s8_un u8)) ((s6_cy u6) 6))), (s8_wl u8), jp, (s8_pp u8), (s8_pj8 u8), (s8_ke u8)), ((s8_g2 u8), (s8_hv u8), (fun k => if k < (s6_cy u6) 6 then cnt (fun s => decide (0 < wt8 (s6_cy u6) (s6_Fs u6) (s6_Ft u6) (s8_d1 u8) (s8_d2_ u8) (s8_d3 u8) (s8_kp u8) (s8_gm u8) (s8_gi u8) (s8_un u8) s) && s.testBit k) (2 ^ (s6_cy u6) 6) else 0), (s8_vf u8), (s8_g8 u8), (s8_cb u8), (s8_kp u8), (s8_nc u8)), g8_3 u8, g8_4 u8)) (alV (lam (wt8 (s6_cy u6) (s6_Fs u6) (s6_Ft u6) (s8_d1 u8) (s8_d2_ u8) (s8_d3 u8) (s8_kp u8) (s8_gm u8) (s8_gi u8) (s8_un u8))) (askA (wt8 (s6_cy u6) (s6_Fs u6) (s6_Ft u6) (s8_d1 u8) (s8_d2_ u8) (s8_d3 u8) (s8_kp u8) (s8_gm u8) (s8_gi u8) (s8_un u8)) ((s6_cy u6) 6)))), Ct.perm hp6.symm (Ct.frI (c_X6_askLeaves l E x (s6_xa u6) (s6_g u6) (s6_tr u6) (s6_fl u6) (s6_pl u6) (s6_cy u6) (s6_ca u6) (s6_hw u6) (s6_wt u6) (by first | assumption | omega) (by first | assumption | omega) (by first | assumption | omega)) [0, 20, 45, 46] rfl rfl rfl rfl), Ct.perm hp8.symm (Ct.fjI (c_X8_askLeaves l E k (s8_th u8) (s8_tr8 u8) (s8_wh u8) (s8_g8 u8) (s8_rr u8) (s8_q u8) (upN (upN (upN (upN (s8_z u8) 6 (s6_fd u6)) 12 (s6_fl u6)) 19 (s6_ac u6)) 20 (s6_im u6)) (s8_nb u8) (s8_wa u8) (s8_wd u8) (s8_ev u8) (s8_al u8) (s8_wl u8) (s6_cy u6) (s8_kp u8) (s8_nc u8) (s8_cb u8) (s8_gm u8) (s8_gi u8) (s8_gf u8) (s8_go_ u8) (s8_gt_ u8) (s8_un u8) (s8_d1 u8) (s8_d2_ u8) (s8_d3 u8) (s8_xf u8) (s6_Fs u6) (s6_Ft u6) ((s8_z u8) 25) (s8_ti u8) (by first | assumption | omega) (by first | assumption | omega) (by first | assumption | omega) (by first | assumption | omega) (by first | assumption | omega) (by first | assumption | omega) (by first | assumption | omega) (by first | assumption | omega) (by first | assumption | omega) (by first | assumption | omega) (by first | assumption | omega) (by first | assumption | omega) (by first | assumption | omega) (by first | assumption | omega) (by first | assumption | omega) (by first | assumption | omega) (by first | assumption | omega)) [0, 10, 11, 12, 13, 14, 15, 16, 17, 18, 19, 3, 9] rfl rfl (fun _ => rfl) (fun _ => rfl)), fun r w h => ⟨_, h.2⟩, ?_⟩
    rintro r w r' w' ⟨rfl, rfl⟩ ⟨⟨jp, rfl⟩, rfl⟩
    exact ⟨congrArg (fun z => some (Value.int z)) ((if_neg h30).trans (by rw [hw8])), Or.inr ⟨(((s6_g u6), (s6_xa u6), (s6_ra u6), (s6_caz u6), (s6_ca u6), (s6_pq u6), (s6_fl u6), (if (s6_cy u6) 3 = 0 then 1 else 0)), g6_1 u6, g6_2 u6, g6_3 u6, g6_4 u6, g6_5 u6, g6_6 u6, g6_7 u6, g6_8 u6, g6_9 u6, g6_10 u6), (((s8_q u8), 0, 0, (-1), (s8_rr u8), (upN (s8_z u8) 25 (cnt (fun s => decide (0 < wt8 (s6_cy u6) (s6_Fs u6) (s6_Ft u6) (s8_d1 u8) (s8_d2_ u8) (s8_d3 u8) (s8_kp u8) (s8_gm u8) (s8_gi u8) (s8_un u8) s)) (2 ^ (s6_cy u6) 6))), (s8_nb u8), (s8_wa u8)), ((s8_wd u8), (s8_ev u8), (alV (lam (wt8 (s6_cy u6) (s6_Fs u6) (s6_Ft u6) (s8_d1 u8) (s8_d2_ u8) (s8_d3 u8) (s8_kp u8) (s8_gm u8) (s8_gi u8) (s8_un u8))) (askA (wt8 (s6_cy u6) (s6_Fs u6) (s6_Ft u6) (s8_d1 u8) (s8_d2_ u8) (s8_d3 u8) (s8_kp u8) (s8_gm u8) (s8_gi u8) (s8_un u8)) ((s6_cy u6) 6))), (s8_wl u8), jp, (s8_pp u8), (s8_pj8 u8), (s8_ke u8)), ((s8_g2 u8), (s8_hv u8), (fun k => if k < (s6_cy u6) 6 then cnt (fun s => decide (0 < wt8 (s6_cy u6) (s6_Fs u6) (s6_Ft u6) (s8_d1 u8) (s8_d2_ u8) (s8_d3 u8) (s8_kp u8) (s8_gm u8) (s8_gi u8) (s8_un u8) s) && s.testBit k) (2 ^ (s6_cy u6) 6) else 0), (s8_vf u8), (s8_g8 u8), (s8_cb u8), (s8_kp u8), (s8_nc u8)), g8_3 u8, g8_4 u8), List.Perm.refl _, List.Perm.refl _, hF, hG, hP, tw_of 0 ((if_neg h30).symm) (by decide) (by decide)⟩⟩
set_option maxRecDepth 100000 in
set_option maxHeartbeats 4000000 in
theorem op_judge (l : Launch) (E : Et) (x k : Nat)  : OpI E x k (fun w P => Ct l E yX6_judge cX6_judge 2 (some .int) 6 0 0 [.ref x] w P) (fun w P => Ct l E yX8_judge cX8_judge 2 (some .int) 5 0 0 [.ref k] w P) := by
  intro w6 w8 hv
  rcases hv with hv | hv
  · obtain ⟨u6, u8, hp6, hp8, hF, hN, hW⟩ := hv
    have hfd := hF.1
    have hby := hF.2.1
    have hkw := hF.2.2.1
    have h40z := hF.2.2.2.1
    have h40 := hF.2.2.2.2.1
    have hink2 := hF.2.2.2.2.2.1
    have hwt := hF.2.2.2.2.2.2.1
    have hdy := hF.2.2.2.2.2.2.2.1
    have hds := hF.2.2.2.2.2.2.2.2.1
    have hink := hF.2.2.2.2.2.2.2.2.2.1
    have ht := hF.2.2.2.2.2.2.2.2.2.2.1
    have ho := hF.2.2.2.2.2.2.2.2.2.2.2.1
    have hac := hF.2.2.2.2.2.2.2.2.2.2.2.2.1
    have him := hF.2.2.2.2.2.2.2.2.2.2.2.2.2.1
    have hc0 := hF.2.2.2.2.2.2.2.2.2.2.2.2.2.2.1
    have hc1 := hF.2.2.2.2.2.2.2.2.2.2.2.2.2.2.2.1
    have hc2 := hF.2.2.2.2.2.2.2.2.2.2.2.2.2.2.2.2.1
    have hc3 := hF.2.2.2.2.2.2.2.2.2.2.2.2.2.2.2.2.2.1
    have hc4 := hF.2.2.2.2.2.2.2.2.2.2.2.2.2.2.2.2.2.2.1
    have hc5 := hF.2.2.2.2.2.2.2.2.2.2.2.2.2.2.2.2.2.2.2.1
    have hc6 := hF.2.2.2.2.2.2.2.2.2.2.2.2.2.2.2.2.2.2.2.2.1
    have hc7 := hF.2.2.2.2.2.2.2.2.2.2.2.2.2.2.2.2.2.2.2.2.2
    have htr := hW.1
    have htl := hW.2.1
    have hy0 := hN.1
    have hy3 : (s6_cy u6) 3 = 0 := hy0 3 (by decide)
    have hy4 : (s6_cy u6) 4 = 0 := hy0 4 (by decide)
    have hy5 : (s6_cy u6) 5 = 0 := hy0 5 (by decide)
    have hy6 : (s6_cy u6) 6 = 0 := hy0 6 (by decide)
    refine ⟨(wrI (W6 E x (((s6_g u6), (s6_xa u6), (s6_ra u6), (s6_caz u6), (s6_ca u6), (s6_pq u6), (s6_fl u6), (if (s6_cy u6) 3 = 0 then 1 else 0)), g6_1 u6, g6_2 u6, g6_3 u6, g6_4 u6, g6_5 u6, g6_6 u6, g6_7 u6, g6_8 u6, g6_9 u6, g6_10 u6)) (if (s6_cy u6) 3 = 0 then (-1) else optI (fst_ (fun i => !toldB (s6_cy u6) (s6_Fs u6) (s6_Ft u6) (s6_dm u6) (s6_dy u6) (s6_ds u6) (s6_dk u6) (s6_ink2 u6) (s6_mn2 u6) 0 i) ((s6_cy u6) 7) 0))), (wrI (W8n E k (((s6_g u6), (s6_xa u6), (s6_ra u6), (s6_caz u6), (s6_ca u6), (s6_pq u6), (s6_fl u6), (if (s6_cy u6) 3 = 0 then 1 else 0)), g6_1 u6, g6_2 u6, g6_3 u6, g6_4 u6, g6_5 u6, g6_6 u6, g6_7 u6, g6_8 u6, g6_9 u6, g6_10 u6) (((s8_q u8), 0, 1, (-1), (s8_rr u8), (s8_z u8), (s8_nb u8), (s8_wa u8)), g8_1 u8, g8_2 u8, g8_3 u8, g8_4 u8)) ((-1))), Ct.perm hp6.symm (Ct.frI (c_X6_judge l E x (s6_xa u6) (s6_g u6) (s6_tr u6) (s6_fl u6) (s6_pl u6) (s6_cy u6) (s6_ca u6) (s6_Fs u6) (s6_Ft u6) (s6_dm u6) (s6_dy u6) (s6_ds u6) (s6_dk u6) (s6_i2 u6) (s6_m2 u6) (s6_t2 u6) (s6_d2 u6) (s6_ink2 u6) (s6_mn2 u6) (by first | assumption | omega) (by first | assumption | omega) (by first | assumption | omega) (by first | assumption | omega) (by first | assumption | omega) (by first | assumption | omega) (by first | assumption | omega)) [0, 20, 26, 27, 29, 30, 31, 32, 33, 34, 35] rfl rfl rfl rfl), Ct.perm hp8.symm (Ct.frI (c_X8_judge_n l E k (s8_th u8) (s8_tr8 u8) (s8_wh u8) (s8_rr u8) (s8_q u8) (upN (upN (upN (upN (s8_z u8) 6 (s6_fd u6)) 12 (s6_fl u6)) 19 (s6_ac u6)) 20 (s6_im u6)) (s8_nb u8) (s8_wa u8) (s8_wd u8) (s8_ev u8) (s8_al u8) (s8_wl u8) ) [0] rfl rfl rfl rfl), fun r w h => ⟨_, h.2⟩, ?_⟩
    rintro r w r' w' ⟨rfl, rfl⟩ ⟨rfl, rfl⟩
    exact ⟨congrArg (fun z => some (Value.int z)) (if_pos hy3), Or.inl ⟨(((s6_g u6), (s6_xa u6), (s6_ra u6), (s6_caz u6), (s6_ca u6), (s6_pq u6), (s6_fl u6), (if (s6_cy u6) 3 = 0 then 1 else 0)), g6_1 u6, g6_2 u6, g6_3 u6, g6_4 u6, g6_5 u6, g6_6 u6, g6_7 u6, g6_8 u6, g6_9 u6, g6_10 u6), (((s8_q u8), 0, 1, (-1), (s8_rr u8), (s8_z u8), (s8_nb u8), (s8_wa u8)), g8_1 u8, g8_2 u8, g8_3 u8, g8_4 u8), List.Perm.refl _, List.Perm.refl _, hF, hN, tw_of 1 ((if_pos hy3).symm) (by decide) (by decide)⟩⟩
  · obtain ⟨u6, u8, hp6, hp8, hF, hG, hP, hW⟩ := hv
    have hfd := hF.1
    have hby := hF.2.1
    have hkw := hF.2.2.1
    have h40z := hF.2.2.2.1
    have h40 := hF.2.2.2.2.1
    have hink2 := hF.2.2.2.2.2.1
    have hwt := hF.2.2.2.2.2.2.1
    have hdy := hF.2.2.2.2.2.2.2.1
    have hds := hF.2.2.2.2.2.2.2.2.1
    have hink := hF.2.2.2.2.2.2.2.2.2.1
    have ht := hF.2.2.2.2.2.2.2.2.2.2.1
    have ho := hF.2.2.2.2.2.2.2.2.2.2.2.1
    have hac := hF.2.2.2.2.2.2.2.2.2.2.2.2.1
    have him := hF.2.2.2.2.2.2.2.2.2.2.2.2.2.1
    have hc0 := hF.2.2.2.2.2.2.2.2.2.2.2.2.2.2.1
    have hc1 := hF.2.2.2.2.2.2.2.2.2.2.2.2.2.2.2.1
    have hc2 := hF.2.2.2.2.2.2.2.2.2.2.2.2.2.2.2.2.1
    have hc3 := hF.2.2.2.2.2.2.2.2.2.2.2.2.2.2.2.2.2.1
    have hc4 := hF.2.2.2.2.2.2.2.2.2.2.2.2.2.2.2.2.2.2.1
    have hc5 := hF.2.2.2.2.2.2.2.2.2.2.2.2.2.2.2.2.2.2.2.1
    have hc6 := hF.2.2.2.2.2.2.2.2.2.2.2.2.2.2.2.2.2.2.2.2.1
    have hc7 := hF.2.2.2.2.2.2.2.2.2.2.2.2.2.2.2.2.2.2.2.2.2
    have htr := hW.1
    have htl := hW.2.1
    have hgb := g8_b hc4 hc5 hc7 hG
    have hfo := hgb.1
    have hon := hgb.2.1
    have htw := hgb.2.2.1
    have hFs := hgb.2.2.2.1
    have hFt := hgb.2.2.2.2.1
    have hik := hgb.2.2.2.2.2.1
    have hun := hgb.2.2.2.2.2.2.1
    have hdi := hgb.2.2.2.2.2.2.2.1
    have hd2 := hgb.2.2.2.2.2.2.2.2.1
    have hd3 := hgb.2.2.2.2.2.2.2.2.2.1
    have hkp := hgb.2.2.2.2.2.2.2.2.2.2.1
    have hm1 := hgb.2.2.2.2.2.2.2.2.2.2.2.1
    have hal_ := hgb.2.2.2.2.2.2.2.2.2.2.2.2
    have hal := hal_ (s6_t u6)
    have hz : ∀ c, (s6_cy u6) 5 ≤ c → (s6_ink u6) c = 0 := hP.1.2.1
    have hmz : ∀ c, (s6_cy u6) 5 ≤ c → (s6_mn u6) c = -1 := hP.1.2.2.1
    have hdd9 : (s6_dd u6) ≤ 999 := hP.1.2.2.2.2
    have hw8 := w8_e hG
    have h30 : ¬ (s6_cy u6) 3 = 0 := by omega
    refine ⟨(wrI (W6 E x (((s6_g u6), (s6_xa u6), (s6_ra u6), (s6_caz u6), (s6_ca u6), (s6_pq u6), (s6_fl u6), (if (s6_cy u6) 3 = 0 then 1 else 0)), g6_1 u6, g6_2 u6, g6_3 u6, g6_4 u6, g6_5 u6, g6_6 u6, g6_7 u6, g6_8 u6, g6_9 u6, g6_10 u6)) (if (s6_cy u6) 3 = 0 then (-1) else optI (fst_ (fun i => !toldB (s6_cy u6) (s6_Fs u6) (s6_Ft u6) (s6_dm u6) (s6_dy u6) (s6_ds u6) (s6_dk u6) (s6_ink2 u6) (s6_mn2 u6) 0 i) ((s6_cy u6) 7) 0))), (jwrI (fun jp => W8c E k (((s6_g u6), (s6_xa u6), (s6_ra u6), (s6_caz u6), (s6_ca u6), (s6_pq u6), (s6_fl u6), (if (s6_cy u6) 3 = 0 then 1 else 0)), g6_1 u6, g6_2 u6, g6_3 u6, g6_4 u6, g6_5 u6, g6_6 u6, g6_7 u6, g6_8 u6, g6_9 u6, g6_10 u6) (((s8_q u8), 0, 0, (-1), (s8_rr u8), (s8_z u8), (s8_nb u8), (s8_wa u8)), ((s8_wd u8), (s8_ev u8), (s8_al u8), (s8_wl u8), jp, (s8_pp u8), (s8_pj8 u8), (s8_ke u8)), g8_2 u8, g8_3 u8, g8_4 u8)) (optI (fst_ (fun i => !toldB (s6_cy u6) (s6_Fs u6) (s6_Ft u6) (s8_d1 u8) (s8_d2_ u8) (s8_d3 u8) (fun j => (s8_kp u8).testBit j) (stF ((s6_cy u6) 0) (s8_gm u8) (s8_gi u8) ((s6_cy u6) 5)).1 (stF ((s6_cy u6) 0) (s8_gm u8) (s8_gi u8) ((s6_cy u6) 5)).2 0 i) ((s6_cy u6) 7) 0))), Ct.perm hp6.symm (Ct.frI (c_X6_judge l E x (s6_xa u6) (s6_g u6) (s6_tr u6) (s6_fl u6) (s6_pl u6) (s6_cy u6) (s6_ca u6) (s6_Fs u6) (s6_Ft u6) (s6_dm u6) (s6_dy u6) (s6_ds u6) (s6_dk u6) (s6_i2 u6) (s6_m2 u6) (s6_t2 u6) (s6_d2 u6) (s6_ink2 u6) (s6_mn2 u6) (by first | assumption | omega) (by first | assumption | omega) (by first | assumption | omega) (by first | assumption | omega) (by first | assumption | omega) (by first | assumption | omega) (by first | assumption | omega)) [0, 20, 26, 27, 29, 30, 31, 32, 33, 34, 35] rfl rfl rfl rfl), Ct.perm hp8.symm (Ct.fjI (c_X8_judge l E k (s8_th u8) (s8_tr8 u8) (s8_wh u8) (s8_g8 u8) (s8_rr u8) (s8_q u8) (upN (upN (upN (upN (s8_z u8) 6 (s6_fd u6)) 12 (s6_fl u6)) 19 (s6_ac u6)) 20 (s6_im u6)) (s8_nb u8) (s8_wa u8) (s8_wd u8) (s8_ev u8) (s8_al u8) (s8_wl u8) (s6_cy u6) (s8_kp u8) (s8_nc u8) (s8_cb u8) (s8_gm u8) (s8_gi u8) (s8_gf u8) (s8_go_ u8) (s8_gt_ u8) (s8_un u8) (s8_d1 u8) (s8_d2_ u8) (s8_d3 u8) (s8_xf u8) (s6_Fs u6) (s6_Ft u6) (by first | assumption | omega) (by first | assumption | omega) (by first | assumption | omega) (by first | assumption | omega) (by first | assumption | omega) (by first | assumption | omega) (by first | assumption | omega) (by first | assumption | omega) (by first | assumption | omega) (by first | assumption | omega) (by first | assumption | omega) (by first | assumption | omega) (by first | assumption | omega) (by first | assumption | omega) (by first | assumption | omega) (by first | assumption | omega)) [0, 10, 11, 12, 13, 14, 15, 16, 17, 18, 19, 3] rfl rfl (fun _ => rfl) (fun _ => rfl)), fun r w h => ⟨_, h.2⟩, ?_⟩
    rintro r w r' w' ⟨rfl, rfl⟩ ⟨⟨jp, rfl⟩, rfl⟩
    exact ⟨congrArg (fun z => some (Value.int z)) ((if_neg h30).trans (congrArg optI (fst_cg _ _ (fun i _ hi => congrArg Bool.not (td_e hG 0 i (by omega)).symm)))), Or.inr ⟨(((s6_g u6), (s6_xa u6), (s6_ra u6), (s6_caz u6), (s6_ca u6), (s6_pq u6), (s6_fl u6), (if (s6_cy u6) 3 = 0 then 1 else 0)), g6_1 u6, g6_2 u6, g6_3 u6, g6_4 u6, g6_5 u6, g6_6 u6, g6_7 u6, g6_8 u6, g6_9 u6, g6_10 u6), (((s8_q u8), 0, 0, (-1), (s8_rr u8), (s8_z u8), (s8_nb u8), (s8_wa u8)), ((s8_wd u8), (s8_ev u8), (s8_al u8), (s8_wl u8), jp, (s8_pp u8), (s8_pj8 u8), (s8_ke u8)), g8_2 u8, g8_3 u8, g8_4 u8), List.Perm.refl _, List.Perm.refl _, hF, hG, hP, tw_of 0 ((if_neg h30).symm) (by decide) (by decide)⟩⟩
