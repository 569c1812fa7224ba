set_option maxRecDepth 100000 in
set_option maxHeartbeats 4000000 in
theorem op_feed (l : Launch) (E : Et) (x k : Nat) (p1 : Int32) (p2 : Int32) (p3 : Int32) (p4 : Int32) (p5 : Int32) : OpI E x k (fun w P => Ct l E yX6_feed cX6_feed 6 (some .int) 2 0 0 [.ref x, .int p1, .int p2, .int p3, .int p4, .int p5] w P) (fun w P => Ct l E yX8_feed cX8_feed 8 (some .int) 0 0 0 [.ref k, .int p1, .int p2, .int p3, .int p4, .int p5] w P) := by
  intro w6 w8 hv
  rcases hv with hv | hv
  · obtain ⟨u6, u8, hp6, hp8, hF, hN, hW⟩ := hv
    have hfd := hF.1
    have hby := hF.2.1
    have hkw := hF.2.2.1
    have h40z := hF.2.2.2.1
    have h40 := hF.2.2.2.2.1
    have hink2 := hF.2.2.2.2.2.1
    have hwt := hF.2.2.2.2.2.2.1
    have hdy := hF.2.2.2.2.2.2.2.1
    have hds := hF.2.2.2.2.2.2.2.2.1
    have hink := hF.2.2.2.2.2.2.2.2.2.1
    have ht := hF.2.2.2.2.2.2.2.2.2.2.1
    have ho := hF.2.2.2.2.2.2.2.2.2.2.2.1
    have hac := hF.2.2.2.2.2.2.2.2.2.2.2.2.1
    have him := hF.2.2.2.2.2.2.2.2.2.2.2.2.2.1
    have hc0 := hF.2.2.2.2.2.2.2.2.2.2.2.2.2.2.1
    have hc1 := hF.2.2.2.2.2.2.2.2.2.2.2.2.2.2.2.1
    have hc2 := hF.2.2.2.2.2.2.2.2.2.2.2.2.2.2.2.2.1
    have hc3 := hF.2.2.2.2.2.2.2.2.2.2.2.2.2.2.2.2.2.1
    have hc4 := hF.2.2.2.2.2.2.2.2.2.2.2.2.2.2.2.2.2.2.1
    have hc5 := hF.2.2.2.2.2.2.2.2.2.2.2.2.2.2.2.2.2.2.2.1
    have hc6 := hF.2.2.2.2.2.2.2.2.2.2.2.2.2.2.2.2.2.2.2.2.1
    have hc7 := hF.2.2.2.2.2.2.2.2.2.2.2.2.2.2.2.2.2.2.2.2.2
    have htr := hW.1
    have htl := hW.2.1
    have hy0 := hN.1
    have hy3 : (s6_cy u6) 3 = 0 := hy0 3 (by decide)
    have hy4 : (s6_cy u6) 4 = 0 := hy0 4 (by decide)
    have hy5 : (s6_cy u6) 5 = 0 := hy0 5 (by decide)
    have hy6 : (s6_cy u6) 6 = 0 := hy0 6 (by decide)
    by_cases hq : (s6_fd u6) + 20 ≤ 900
    · refine ⟨(wrI (W6 E x (g6_0 u6, ((s6_pl u6), ((s6_fd u6) + 20), (s6_re u6), (s6_rk u6), (s6_rp u6), (s6_rn u6), (s6_rc u6), (s6_rf u6)), ((s6_rv u6), (s6_rh u6), (s6_rw u6), (tk4 (tk4 (tk4 (tk4 (tk4 (s6_tp u6) (s6_fd u6) p1) ((s6_fd u6) + 1 + 1 + 1 + 1) p2) ((s6_fd u6) + 1 + 1 + 1 + 1 + 1 + 1 + 1 + 1) p3) ((s6_fd u6) + 1 + 1 + 1 + 1 + 1 + 1 + 1 + 1 + 1 + 1 + 1 + 1) p4) ((s6_fd u6) + 1 + 1 + 1 + 1 + 1 + 1 + 1 + 1 + 1 + 1 + 1 + 1 + 1 + 1 + 1 + 1) p5), (s6_kwd u6), (s6_nms u6), (s6_nso u6), (s6_nnu u6)), g6_3 u6, g6_4 u6, g6_5 u6, g6_6 u6, g6_7 u6, g6_8 u6, g6_9 u6, g6_10 u6)) (nI ((s6_fd u6) + 20))), (wrI (W8n E k (g6_0 u6, ((s6_pl u6), ((s6_fd u6) + 20), (s6_re u6), (s6_rk u6), (s6_rp u6), (s6_rn u6), (s6_rc u6), (s6_rf u6)), ((s6_rv u6), (s6_rh u6), (s6_rw u6), (tk4 (tk4 (tk4 (tk4 (tk4 (s6_tp u6) (s6_fd u6) p1) ((s6_fd u6) + 1 + 1 + 1 + 1) p2) ((s6_fd u6) + 1 + 1 + 1 + 1 + 1 + 1 + 1 + 1) p3) ((s6_fd u6) + 1 + 1 + 1 + 1 + 1 + 1 + 1 + 1 + 1 + 1 + 1 + 1) p4) ((s6_fd u6) + 1 + 1 + 1 + 1 + 1 + 1 + 1 + 1 + 1 + 1 + 1 + 1 + 1 + 1 + 1 + 1) p5), (s6_kwd u6), (s6_nms u6), (s6_nso u6), (s6_nnu u6)), g6_3 u6, g6_4 u6, g6_5 u6, g6_6 u6, g6_7 u6, g6_8 u6, g6_9 u6, g6_10 u6) (((s8_q u8), 0, (s8_tr8 u8), (s8_wh u8), (s8_rr u8), (s8_z u8), (s8_nb u8), (s8_wa u8)), g8_1 u8, g8_2 u8, g8_3 u8, g8_4 u8)) (nI ((s6_fd u6) + 20))), Ct.perm hp6.symm (Ct.frI (c_X6_feed l E x (s6_xa u6) (s6_g u6) (s6_tr u6) (s6_fl u6) (s6_pl u6) (s6_ra u6) (s6_fd u6) (s6_re u6) (s6_rk u6) (s6_rp u6) (s6_rn u6) (s6_rv u6) (s6_rh u6) (s6_rc u6) (s6_rf u6) (s6_rw u6) (s6_tp u6) p1 p2 p3 p4 p5 (by first | assumption | omega)) [0, 1, 2] rfl rfl rfl rfl), Ct.perm hp8.symm (Ct.frI (c_X8_feed l E k (s8_th u8) (s8_tr8 u8) (s8_wh u8) (s8_rr u8) (s8_q u8) (upN (upN (upN (s8_z u8) 12 (s6_fl u6)) 19 (s6_ac u6)) 20 (s6_im u6)) (s8_nb u8) (s8_wa u8) (s8_wd u8) (s8_ev u8) (s8_al u8) (s8_wl u8) none (s6_fd u6) (s6_tp u6) p1 p2 p3 p4 p5 (by first | assumption | omega)) [0, 1] rfl rfl rfl rfl), fun r w h => ⟨_, h.2⟩, ?_⟩
      rintro r w r' w' ⟨rfl, rfl⟩ ⟨rfl, rfl⟩
      exact ⟨congrArg (fun z => some (Value.int z)) (rfl), Or.inl ⟨(g6_0 u6, ((s6_pl u6), ((s6_fd u6) + 20), (s6_re u6), (s6_rk u6), (s6_rp u6), (s6_rn u6), (s6_rc u6), (s6_rf u6)), ((s6_rv u6), (s6_rh u6), (s6_rw u6), (tk4 (tk4 (tk4 (tk4 (tk4 (s6_tp u6) (s6_fd u6) p1) ((s6_fd u6) + 1 + 1 + 1 + 1) p2) ((s6_fd u6) + 1 + 1 + 1 + 1 + 1 + 1 + 1 + 1) p3) ((s6_fd u6) + 1 + 1 + 1 + 1 + 1 + 1 + 1 + 1 + 1 + 1 + 1 + 1) p4) ((s6_fd u6) + 1 + 1 + 1 + 1 + 1 + 1 + 1 + 1 + 1 + 1 + 1 + 1 + 1 + 1 + 1 + 1) p5), (s6_kwd u6), (s6_nms u6), (s6_nso u6), (s6_nnu u6)), g6_3 u6, g6_4 u6, g6_5 u6, g6_6 u6, g6_7 u6, g6_8 u6, g6_9 u6, g6_10 u6), (((s8_q u8), 0, (s8_tr8 u8), (s8_wh u8), (s8_rr u8), (s8_z u8), (s8_nb u8), (s8_wa u8)), g8_1 u8, g8_2 u8, g8_3 u8, g8_4 u8), List.Perm.refl _, List.Perm.refl _, F6_fd hF hq (by_tk (by_tk (by_tk (by_tk (by_tk hby))))), hN, hW⟩⟩
    · refine ⟨(wrI (W6 E x u6) ((-1))), (wrI (W8n E k u6 (((s8_q u8), 0, (s8_tr8 u8), (s8_wh u8), (s8_rr u8), (s8_z u8), (s8_nb u8), (s8_wa u8)), g8_1 u8, g8_2 u8, g8_3 u8, g8_4 u8)) ((-1))), Ct.perm hp6.symm (Ct.frRI (c_X6_feed_no l E x (s6_xa u6) (s6_g u6) (s6_tr u6) (s6_fl u6) (s6_pl u6) (s6_ra u6) (s6_fd u6) (s6_re u6) (s6_rk u6) (s6_rp u6) (s6_rn u6) (s6_rv u6) (s6_rh u6) (s6_rc u6) (s6_rf u6) (s6_rw u6) (s6_tp u6) p1 p2 p3 p4 p5 (by first | assumption | omega) (by first | assumption | omega)) [0, 1, 2] rfl rfl rfl), Ct.perm hp8.symm (Ct.frI (c_X8_feed_no l E k (s8_th u8) (s8_tr8 u8) (s8_wh u8) (s8_rr u8) (s8_q u8) (upN (upN (upN (s8_z u8) 12 (s6_fl u6)) 19 (s6_ac u6)) 20 (s6_im u6)) (s8_nb u8) (s8_wa u8) (s8_wd u8) (s8_ev u8) (s8_al u8) (s8_wl u8) none (s6_fd u6) (s6_tp u6) p1 p2 p3 p4 p5 (by first | assumption | omega) (by first | assumption | omega)) [0, 1] rfl rfl rfl rfl), fun r w h => ⟨_, h.2⟩, ?_⟩
      rintro r w r' w' ⟨rfl, rfl⟩ ⟨rfl, rfl⟩
      exact ⟨congrArg (fun z => some (Value.int z)) (rfl), Or.inl ⟨u6, (((s8_q u8), 0, (s8_tr8 u8), (s8_wh u8), (s8_rr u8), (s8_z u8), (s8_nb u8), (s8_wa u8)), g8_1 u8, g8_2 u8, g8_3 u8, g8_4 u8), List.Perm.refl _, List.Perm.refl _, hF, hN, hW⟩⟩
  · obtain ⟨u6, u8, hp6, hp8, hF, hG, hP, hW⟩ := hv
    have hfd := hF.1
    have hby := hF.2.1
    have hkw := hF.2.2.1
    have h40z := hF.2.2.2.1
    have h40 := hF.2.2.2.2.1
    have hink2 := hF.2.2.2.2.2.1
    have hwt := hF.2.2.2.2.2.2.1
    have hdy := hF.2.2.2.2.2.2.2.1
    have hds := hF.2.2.2.2.2.2.2.2.1
    have hink := hF.2.2.2.2.2.2.2.2.2.1
    have ht := hF.2.2.2.2.2.2.2.2.2.2.1
    have ho := hF.2.2.2.2.2.2.2.2.2.2.2.1
    have hac := hF.2.2.2.2.2.2.2.2.2.2.2.2.1
    have him := hF.2.2.2.2.2.2.2.2.2.2.2.2.2.1
    have hc0 := hF.2.2.2.2.2.2.2.2.2.2.2.2.2.2.1
    have hc1 := hF.2.2.2.2.2.2.2.2.2.2.2.2.2.2.2.1
    have hc2 := hF.2.2.2.2.2.2.2.2.2.2.2.2.2.2.2.2.1
    have hc3 := hF.2.2.2.2.2.2.2.2.2.2.2.2.2.2.2.2.2.1
    have hc4 := hF.2.2.2.2.2.2.2.2.2.2.2.2.2.2.2.2.2.2.1
    have hc5 := hF.2.2.2.2.2.2.2.2.2.2.2.2.2.2.2.2.2.2.2.1
    have hc6 := hF.2.2.2.2.2.2.2.2.2.2.2.2.2.2.2.2.2.2.2.2.1
    have hc7 := hF.2.2.2.2.2.2.2.2.2.2.2.2.2.2.2.2.2.2.2.2.2
    have htr := hW.1
    have htl := hW.2.1
    have hgb := g8_b hc4 hc5 hc7 hG
    have hfo := hgb.1
    have hon := hgb.2.1
    have htw := hgb.2.2.1
    have hFs := hgb.2.2.2.1
    have hFt := hgb.2.2.2.2.1
    have hik := hgb.2.2.2.2.2.1
    have hun := hgb.2.2.2.2.2.2.1
    have hdi := hgb.2.2.2.2.2.2.2.1
    have hd2 := hgb.2.2.2.2.2.2.2.2.1
    have hd3 := hgb.2.2.2.2.2.2.2.2.2.1
    have hkp := hgb.2.2.2.2.2.2.2.2.2.2.1
    have hm1 := hgb.2.2.2.2.2.2.2.2.2.2.2.1
    have hal_ := hgb.2.2.2.2.2.2.2.2.2.2.2.2
    have hal := hal_ (s6_t u6)
    have hz : ∀ c, (s6_cy u6) 5 ≤ c → (s6_ink u6) c = 0 := hP.1.2.1
    have hmz : ∀ c, (s6_cy u6) 5 ≤ c → (s6_mn u6) c = -1 := hP.1.2.2.1
    have hdd9 : (s6_dd u6) ≤ 999 := hP.1.2.2.2.2
    have hw8 := w8_e hG
    have h30 : ¬ (s6_cy u6) 3 = 0 := by omega
    by_cases hq : (s6_fd u6) + 20 ≤ 900
    · refine ⟨(wrI (W6 E x (g6_0 u6, ((s6_pl u6), ((s6_fd u6) + 20), (s6_re u6), (s6_rk u6), (s6_rp u6), (s6_rn u6), (s6_rc u6), (s6_rf u6)), ((s6_rv u6), (s6_rh u6), (s6_rw u6), (tk4 (tk4 (tk4 (tk4 (tk4 (s6_tp u6) (s6_fd u6) p1) ((s6_fd u6) + 1 + 1 + 1 + 1) p2) ((s6_fd u6) + 1 + 1 + 1 + 1 + 1 + 1 + 1 + 1) p3) ((s6_fd u6) + 1 + 1 + 1 + 1 + 1 + 1 + 1 + 1 + 1 + 1 + 1 + 1) p4) ((s6_fd u6) + 1 + 1 + 1 + 1 + 1 + 1 + 1 + 1 + 1 + 1 + 1 + 1 + 1 + 1 + 1 + 1) p5), (s6_kwd u6), (s6_nms u6), (s6_nso u6), (s6_nnu u6)), g6_3 u6, g6_4 u6, g6_5 u6, g6_6 u6, g6_7 u6, g6_8 u6, g6_9 u6, g6_10 u6)) (nI ((s6_fd u6) + 20))), (wrI (W8c E k (g6_0 u6, ((s6_pl u6), ((s6_fd u6) + 20), (s6_re u6), (s6_rk u6), (s6_rp u6), (s6_rn u6), (s6_rc u6), (s6_rf u6)), ((s6_rv u6), (s6_rh u6), (s6_rw u6), (tk4 (tk4 (tk4 (tk4 (tk4 (s6_tp u6) (s6_fd u6) p1) ((s6_fd u6) + 1 + 1 + 1 + 1) p2) ((s6_fd u6) + 1 + 1 + 1 + 1 + 1 + 1 + 1 + 1) p3) ((s6_fd u6) + 1 + 1 + 1 + 1 + 1 + 1 + 1 + 1 + 1 + 1 + 1 + 1) p4) ((s6_fd u6) + 1 + 1 + 1 + 1 + 1 + 1 + 1 + 1 + 1 + 1 + 1 + 1 + 1 + 1 + 1 + 1) p5), (s6_kwd u6), (s6_nms u6), (s6_nso u6), (s6_nnu u6)), g6_3 u6, g6_4 u6, g6_5 u6, g6_6 u6, g6_7 u6, g6_8 u6, g6_9 u6, g6_10 u6) (((s8_q u8), 0, (s8_tr8 u8), (s8_wh u8), (s8_rr u8), (s8_z u8), (s8_nb u8), (s8_wa u8)), g8_1 u8, g8_2 u8, g8_3 u8, g8_4 u8)) (nI ((s6_fd u6) + 20))), Ct.perm hp6.symm (Ct.frI (c_X6_feed l E x (s6_xa u6) (s6_g u6) (s6_tr u6) (s6_fl u6) (s6_pl u6) (s6_ra u6) (s6_fd u6) (s6_re u6) (s6_rk u6) (s6_rp u6) (s6_rn u6) (s6_rv u6) (s6_rh u6) (s6_rc u6) (s6_rf u6) (s6_rw u6) (s6_tp u6) p1 p2 p3 p4 p5 (by first | assumption | omega)) [0, 1, 2] rfl rfl rfl rfl), Ct.perm hp8.symm (Ct.frI (c_X8_feed l E k (s8_th u8) (s8_tr8 u8) (s8_wh u8) (s8_rr u8) (s8_q u8) (upN (upN (upN (s8_z u8) 12 (s6_fl u6)) 19 (s6_ac u6)) 20 (s6_im u6)) (s8_nb u8) (s8_wa u8) (s8_wd u8) (s8_ev u8) (s8_al u8) (s8_wl u8) (some (s8_g8 u8)) (s6_fd u6) (s6_tp u6) p1 p2 p3 p4 p5 (by first | assumption | omega)) [0, 1] rfl rfl rfl rfl), fun r w h => ⟨_, h.2⟩, ?_⟩
      rintro r w r' w' ⟨rfl, rfl⟩ ⟨rfl, rfl⟩
      exact ⟨congrArg (fun z => some (Value.int z)) (rfl), Or.inr ⟨(g6_0 u6, ((s6_pl u6), ((s6_fd u6) + 20), (s6_re u6), (s6_rk u6), (s6_rp u6), (s6_rn u6), (s6_rc u6), (s6_rf u6)), ((s6_rv u6), (s6_rh u6), (s6_rw u6), (tk4 (tk4 (tk4 (tk4 (tk4 (s6_tp u6) (s6_fd u6) p1) ((s6_fd u6) + 1 + 1 + 1 + 1) p2) ((s6_fd u6) + 1 + 1 + 1 + 1 + 1 + 1 + 1 + 1) p3) ((s6_fd u6) + 1 + 1 + 1 + 1 + 1 + 1 + 1 + 1 + 1 + 1 + 1 + 1) p4) ((s6_fd u6) + 1 + 1 + 1 + 1 + 1 + 1 + 1 + 1 + 1 + 1 + 1 + 1 + 1 + 1 + 1 + 1) p5), (s6_kwd u6), (s6_nms u6), (s6_nso u6), (s6_nnu u6)), g6_3 u6, g6_4 u6, g6_5 u6, g6_6 u6, g6_7 u6, g6_8 u6, g6_9 u6, g6_10 u6), (((s8_q u8), 0, (s8_tr8 u8), (s8_wh u8), (s8_rr u8), (s8_z u8), (s8_nb u8), (s8_wa u8)), g8_1 u8, g8_2 u8, g8_3 u8, g8_4 u8), List.Perm.refl _, List.Perm.refl _, F6_fd hF hq (by_tk (by_tk (by_tk (by_tk (by_tk hby))))), hG, hP, hW⟩⟩
    · refine ⟨(wrI (W6 E x u6) ((-1))), (wrI (W8c E k u6 (((s8_q u8), 0, (s8_tr8 u8), (s8_wh u8), (s8_rr u8), (s8_z u8), (s8_nb u8), (s8_wa u8)), g8_1 u8, g8_2 u8, g8_3 u8, g8_4 u8)) ((-1))), Ct.perm hp6.symm (Ct.frRI (c_X6_feed_no l E x (s6_xa u6) (s6_g u6) (s6_tr u6) (s6_fl u6) (s6_pl u6) (s6_ra u6) (s6_fd u6) (s6_re u6) (s6_rk u6) (s6_rp u6) (s6_rn u6) (s6_rv u6) (s6_rh u6) (s6_rc u6) (s6_rf u6) (s6_rw u6) (s6_tp u6) p1 p2 p3 p4 p5 (by first | assumption | omega) (by first | assumption | omega)) [0, 1, 2] rfl rfl rfl), Ct.perm hp8.symm (Ct.frI (c_X8_feed_no l E k (s8_th u8) (s8_tr8 u8) (s8_wh u8) (s8_rr u8) (s8_q u8) (upN (upN (upN (s8_z u8) 12 (s6_fl u6)) 19 (s6_ac u6)) 20 (s6_im u6)) (s8_nb u8) (s8_wa u8) (s8_wd u8) (s8_ev u8) (s8_al u8) (s8_wl u8) (some (s8_g8 u8)) (s6_fd u6) (s6_tp u6) p1 p2 p3 p4 p5 (by first | assumption | omega) (by first | assumption | omega)) [0, 1] rfl rfl rfl rfl), fun r w h => ⟨_, h.2⟩, ?_⟩
      rintro r w r' w' ⟨rfl, rfl⟩ ⟨rfl, rfl⟩
      exact ⟨congrArg (fun z => some (Value.int z)) (rfl), Or.inr ⟨u6, (((s8_q u8), 0, (s8_tr8 u8), (s8_wh u8), (s8_rr u8), (s8_z u8), (s8_nb u8), (s8_wa u8)), g8_1 u8, g8_2 u8, g8_3 u8, g8_4 u8), List.Perm.refl _, List.Perm.refl _, hF, hG, hP, hW⟩⟩
set_option maxRecDepth 100000 in
set_option maxHeartbeats 4000000 in
theorem op_fault (l : Launch) (E : Et) (x k : Nat)  : OpI E x k (fun w P => Ct l E yX6_fault cX6_fault 1 (some .int) 0 0 0 [.ref x] w P) (fun w P => Ct l E yX8_fault cX8_fault 1 (some .int) 1 0 0 [.ref k] w P) := by
  intro w6 w8 hv
  rcases hv with hv | hv
  · obtain ⟨u6, u8, hp6, hp8, hF, hN, hW⟩ := hv
    have hfd := hF.1
    have hby := hF.2.1
    have hkw := hF.2.2.1
    have h40z := hF.2.2.2.1
    have h40 := hF.2.2.2.2.1
    have hink2 := hF.2.2.2.2.2.1
    have hwt := hF.2.2.2.2.2.2.1
    have hdy := hF.2.2.2.2.2.2.2.1
    have hds := hF.2.2.2.2.2.2.2.2.1
    have hink := hF.2.2.2.2.2.2.2.2.2.1
    have ht := hF.2.2.2.2.2.2.2.2.2.2.1
    have ho := hF.2.2.2.2.2.2.2.2.2.2.2.1
    have hac := hF.2.2.2.2.2.2.2.2.2.2.2.2.1
    have him := hF.2.2.2.2.2.2.2.2.2.2.2.2.2.1
    have hc0 := hF.2.2.2.2.2.2.2.2.2.2.2.2.2.2.1
    have hc1 := hF.2.2.2.2.2.2.2.2.2.2.2.2.2.2.2.1
    have hc2 := hF.2.2.2.2.2.2.2.2.2.2.2.2.2.2.2.2.1
    have hc3 := hF.2.2.2.2.2.2.2.2.2.2.2.2.2.2.2.2.2.1
    have hc4 := hF.2.2.2.2.2.2.2.2.2.2.2.2.2.2.2.2.2.2.1
    have hc5 := hF.2.2.2.2.2.2.2.2.2.2.2.2.2.2.2.2.2.2.2.1
    have hc6 := hF.2.2.2.2.2.2.2.2.2.2.2.2.2.2.2.2.2.2.2.2.1
    have hc7 := hF.2.2.2.2.2.2.2.2.2.2.2.2.2.2.2.2.2.2.2.2.2
    have htr := hW.1
    have htl := hW.2.1
    have hy0 := hN.1
    have hy3 : (s6_cy u6) 3 = 0 := hy0 3 (by decide)
    have hy4 : (s6_cy u6) 4 = 0 := hy0 4 (by decide)
    have hy5 : (s6_cy u6) 5 = 0 := hy0 5 (by decide)
    have hy6 : (s6_cy u6) 6 = 0 := hy0 6 (by decide)
    refine ⟨(wrI (W6 E x u6) (nI (s6_fl u6))), (wrI (W8n E k u6 (((s8_q u8), 0, (s8_tr8 u8), (s8_wh u8), (s8_rr u8), (s8_z u8), (s8_nb u8), (s8_wa u8)), g8_1 u8, g8_2 u8, g8_3 u8, g8_4 u8)) (nI ((upN (upN (upN (upN (s8_z u8) 6 (s6_fd u6)) 12 (s6_fl u6)) 19 (s6_ac u6)) 20 (s6_im u6)) 12))), Ct.perm hp6.symm (Ct.frRI (c_X6_fault l E x (s6_xa u6) (s6_g u6) (s6_tr u6) (s6_fl u6) (s6_pl u6) ) [0] rfl rfl rfl), Ct.perm hp8.symm (Ct.frI (c_X8_fault_n l E k (s8_th u8) (s8_tr8 u8) (s8_wh u8) (s8_rr u8) (s8_q u8) (upN (upN (upN (upN (s8_z u8) 6 (s6_fd u6)) 12 (s6_fl u6)) 19 (s6_ac u6)) 20 (s6_im u6)) (s8_nb u8) (s8_wa u8) (s8_wd u8) (s8_ev u8) (s8_al u8) (s8_wl u8) ) [0] rfl rfl rfl rfl), fun r w h => ⟨_, h.2⟩, ?_⟩
    rintro r w r' w' ⟨rfl, rfl⟩ ⟨rfl, rfl⟩
    exact ⟨congrArg (fun z => some (Value.int z)) (rfl), Or.inl ⟨u6, (((s8_q u8), 0, (s8_tr8 u8), (s8_wh u8), (s8_rr u8), (s8_z u8), (s8_nb u8), (s8_wa u8)), g8_1 u8, g8_2 u8, g8_3 u8, g8_4 u8), List.Perm.refl _, List.Perm.refl _, hF, hN, hW⟩⟩
  · obtain ⟨u6, u8, hp6, hp8, hF, hG, hP, hW⟩ := hv
    have hfd := hF.1
    have hby := hF.2.1
    have hkw := hF.2.2.1
    have h40z := hF.2.2.2.1
    have h40 := hF.2.2.2.2.1
    have hink2 := hF.2.2.2.2.2.1
    have hwt := hF.2.2.2.2.2.2.1
    have hdy := hF.2.2.2.2.2.2.2.1
    have hds := hF.2.2.2.2.2.2.2.2.1
    have hink := hF.2.2.2.2.2.2.2.2.2.1
    have ht := hF.2.2.2.2.2.2.2.2.2.2.1
    have ho := hF.2.2.2.2.2.2.2.2.2.2.2.1
    have hac := hF.2.2.2.2.2.2.2.2.2.2.2.2.1
    have him := hF.2.2.2.2.2.2.2.2.2.2.2.2.2.1
    have hc0 := hF.2.2.2.2.2.2.2.2.2.2.2.2.2.2.1
    have hc1 := hF.2.2.2.2.2.2.2.2.2.2.2.2.2.2.2.1
    have hc2 := hF.2.2.2.2.2.2.2.2.2.2.2.2.2.2.2.2.1
    have hc3 := hF.2.2.2.2.2.2.2.2.2.2.2.2.2.2.2.2.2.1
    have hc4 := hF.2.2.2.2.2.2.2.2.2.2.2.2.2.2.2.2.2.2.1
    have hc5 := hF.2.2.2.2.2.2.2.2.2.2.2.2.2.2.2.2.2.2.2.1
    have hc6 := hF.2.2.2.2.2.2.2.2.2.2.2.2.2.2.2.2.2.2.2.2.1
    have hc7 := hF.2.2.2.2.2.2.2.2.2.2.2.2.2.2.2.2.2.2.2.2.2
    have htr := hW.1
    have htl := hW.2.1
    have hgb := g8_b hc4 hc5 hc7 hG
    have hfo := hgb.1
    have hon := hgb.2.1
    have htw := hgb.2.2.1
    have hFs := hgb.2.2.2.1
    have hFt := hgb.2.2.2.2.1
    have hik := hgb.2.2.2.2.2.1
    have hun := hgb.2.2.2.2.2.2.1
    have hdi := hgb.2.2.2.2.2.2.2.1
    have hd2 := hgb.2.2.2.2.2.2.2.2.1
    have hd3 := hgb.2.2.2.2.2.2.2.2.2.1
    have hkp := hgb.2.2.2.2.2.2.2.2.2.2.1
    have hm1 := hgb.2.2.2.2.2.2.2.2.2.2.2.1
    have hal_ := hgb.2.2.2.2.2.2.2.2.2.2.2.2
    have hal := hal_ (s6_t u6)
    have hz : ∀ c, (s6_cy u6) 5 ≤ c → (s6_ink u6) c = 0 := hP.1.2.1
    have hmz : ∀ c, (s6_cy u6) 5 ≤ c → (s6_mn u6) c = -1 := hP.1.2.2.1
    have hdd9 : (s6_dd u6) ≤ 999 := hP.1.2.2.2.2
    have hw8 := w8_e hG
    have h30 : ¬ (s6_cy u6) 3 = 0 := by omega
    refine ⟨(wrI (W6 E x u6) (nI (s6_fl u6))), (wrI (W8c E k u6 (((s8_q u8), 0, (s8_tr8 u8), (s8_wh u8), (s8_rr u8), (s8_z u8), (s8_nb u8), (s8_wa u8)), g8_1 u8, g8_2 u8, g8_3 u8, g8_4 u8)) (nI ((upN (upN (upN (upN (s8_z u8) 6 (s6_fd u6)) 12 (s6_fl u6)) 19 (s6_ac u6)) 20 (s6_im u6)) 12))), Ct.perm hp6.symm (Ct.frRI (c_X6_fault l E x (s6_xa u6) (s6_g u6) (s6_tr u6) (s6_fl u6) (s6_pl u6) ) [0] rfl rfl rfl), Ct.perm hp8.symm (Ct.frI (c_X8_fault l E k (s8_th u8) (s8_tr8 u8) (s8_wh u8) (s8_g8 u8) (s8_rr u8) (s8_q u8) (upN (upN (upN (upN (s8_z u8) 6 (s6_fd u6)) 12 (s6_fl u6)) 19 (s6_ac u6)) 20 (s6_im u6)) (s8_nb u8) (s8_wa u8) (s8_wd u8) (s8_ev u8) (s8_al u8) (s8_wl u8) ) [0] rfl rfl rfl rfl), fun r w h => ⟨_, h.2⟩, ?_⟩
    rintro r w r' w' ⟨rfl, rfl⟩ ⟨rfl, rfl⟩
    exact ⟨congrArg (fun z => some (Value.int z)) (rfl), Or.inr ⟨u6, (((s8_q u8), 0, (s8_tr8 u8), (s8_wh u8), (s8_rr u8), (s8_z u8), (s8_nb u8), (s8_wa u8)), g8_1 u8, g8_2 u8, g8_3 u8, g8_4 u8), List.Perm.refl _, List.Perm.refl _, hF, hG, hP, hW⟩⟩
set_option maxRecDepth 100000 in
set_option maxHeartbeats 4000000 in
theorem op_where (l : Launch) (E : Et) (x k : Nat)  : OpI E x k (fun w P => Ct l E yX6_where cX6_where 1 (some .int) 0 0 0 [.ref x] w P) (fun w P => Ct l E yX8_where cX8_where 1 (some .int) 1 0 0 [.ref k] w P) := by
  intro w6 w8 hv
  rcases hv with hv | hv
  · obtain ⟨u6, u8, hp6, hp8, hF, hN, hW⟩ := hv
    have hfd := hF.1
    have hby := hF.2.1
    have hkw := hF.2.2.1
    have h40z := hF.2.2.2.1
    have h40 := hF.2.2.2.2.1
    have hink2 := hF.2.2.2.2.2.1
    have hwt := hF.2.2.2.2.2.2.1
    have hdy := hF.2.2.2.2.2.2.2.1
    have hds := hF.2.2.2.2.2.2.2.2.1
    have hink := hF.2.2.2.2.2.2.2.2.2.1
    have ht := hF.2.2.2.2.2.2.2.2.2.2.1
    have ho := hF.2.2.2.2.2.2.2.2.2.2.2.1
    have hac := hF.2.2.2.2.2.2.2.2.2.2.2.2.1
    have him := hF.2.2.2.2.2.2.2.2.2.2.2.2.2.1
    have hc0 := hF.2.2.2.2.2.2.2.2.2.2.2.2.2.2.1
    have hc1 := hF.2.2.2.2.2.2.2.2.2.2.2.2.2.2.2.1
    have hc2 := hF.2.2.2.2.2.2.2.2.2.2.2.2.2.2.2.2.1
    have hc3 := hF.2.2.2.2.2.2.2.2.2.2.2.2.2.2.2.2.2.1
    have hc4 := hF.2.2.2.2.2.2.2.2.2.2.2.2.2.2.2.2.2.2.1
    have hc5 := hF.2.2.2.2.2.2.2.2.2.2.2.2.2.2.2.2.2.2.2.1
    have hc6 := hF.2.2.2.2.2.2.2.2.2.2.2.2.2.2.2.2.2.2.2.2.1
    have hc7 := hF.2.2.2.2.2.2.2.2.2.2.2.2.2.2.2.2.2.2.2.2.2
    have htr := hW.1
    have htl := hW.2.1
    have hy0 := hN.1
    have hy3 : (s6_cy u6) 3 = 0 := hy0 3 (by decide)
    have hy4 : (s6_cy u6) 4 = 0 := hy0 4 (by decide)
    have hy5 : (s6_cy u6) 5 = 0 := hy0 5 (by decide)
    have hy6 : (s6_cy u6) 6 = 0 := hy0 6 (by decide)
    refine ⟨(wrI (W6 E x u6) (if (s6_tr u6) = 4 then (s6_pl u6) else (-1))), (wrI (W8n E k u6 (((s8_q u8), 0, (s8_tr8 u8), (s8_wh u8), (s8_rr u8), (s8_z u8), (s8_nb u8), (s8_wa u8)), g8_1 u8, g8_2 u8, g8_3 u8, g8_4 u8)) ((s8_wh u8))), Ct.perm hp6.symm (Ct.frRI (c_X6_where l E x (s6_xa u6) (s6_g u6) (s6_tr u6) (s6_fl u6) (s6_pl u6) (by first | assumption | omega)) [0] rfl rfl rfl), Ct.perm hp8.symm (Ct.frI (c_X8_where_n l E k (s8_th u8) (s8_tr8 u8) (s8_wh u8) (s8_rr u8) (s8_q u8) (upN (upN (upN (upN (s8_z u8) 6 (s6_fd u6)) 12 (s6_fl u6)) 19 (s6_ac u6)) 20 (s6_im u6)) (s8_nb u8) (s8_wa u8) (s8_wd u8) (s8_ev u8) (s8_al u8) (s8_wl u8) ) [0] rfl rfl rfl rfl), fun r w h => ⟨_, h.2⟩, ?_⟩
    rintro r w r' w' ⟨rfl, rfl⟩ ⟨rfl, rfl⟩
    exact ⟨congrArg (fun z => some (Value.int z)) (by rw [← hW.1]; exact hW.2.2.symm), Or.inl ⟨u6, (((s8_q u8), 0, (s8_tr8 u8), (s8_wh u8), (s8_rr u8), (s8_z u8), (s8_nb u8), (s8_wa u8)), g8_1 u8, g8_2 u8, g8_3 u8, g8_4 u8), List.Perm.refl _, List.Perm.refl _, hF, hN, hW⟩⟩
  · obtain ⟨u6, u8, hp6, hp8, hF, hG, hP, hW⟩ := hv
    have hfd := hF.1
    have hby := hF.2.1
    have hkw := hF.2.2.1
    have h40z := hF.2.2.2.1
    have h40 := hF.2.2.2.2.1
    have hink2 := hF.2.2.2.2.2.1
    have hwt := hF.2.2.2.2.2.2.1
    have hdy := hF.2.2.2.2.2.2.2.1
    have hds := hF.2.2.2.2.2.2.2.2.1
    have hink := hF.2.2.2.2.2.2.2.2.2.1
    have ht := hF.2.2.2.2.2.2.2.2.2.2.1
    have ho := hF.2.2.2.2.2.2.2.2.2.2.2.1
    have hac := hF.2.2.2.2.2.2.2.2.2.2.2.2.1
    have him := hF.2.2.2.2.2.2.2.2.2.2.2.2.2.1
    have hc0 := hF.2.2.2.2.2.2.2.2.2.2.2.2.2.2.1
    have hc1 := hF.2.2.2.2.2.2.2.2.2.2.2.2.2.2.2.1
    have hc2 := hF.2.2.2.2.2.2.2.2.2.2.2.2.2.2.2.2.1
    have hc3 := hF.2.2.2.2.2.2.2.2.2.2.2.2.2.2.2.2.2.1
    have hc4 := hF.2.2.2.2.2.2.2.2.2.2.2.2.2.2.2.2.2.2.1
    have hc5 := hF.2.2.2.2.2.2.2.2.2.2.2.2.2.2.2.2.2.2.2.1
    have hc6 := hF.2.2.2.2.2.2.2.2.2.2.2.2.2.2.2.2.2.2.2.2.1
    have hc7 := hF.2.2.2.2.2.2.2.2.2.2.2.2.2.2.2.2.2.2.2.2.2
    have htr := hW.1
    have htl := hW.2.1
    have hgb := g8_b hc4 hc5 hc7 hG
    have hfo := hgb.1
    have hon := hgb.2.1
    have htw := hgb.2.2.1
    have hFs := hgb.2.2.2.1
    have hFt := hgb.2.2.2.2.1
    have hik := hgb.2.2.2.2.2.1
    have hun := hgb.2.2.2.2.2.2.1
    have hdi := hgb.2.2.2.2.2.2.2.1
    have hd2 := hgb.2.2.2.2.2.2.2.2.1
    have hd3 := hgb.2.2.2.2.2.2.2.2.2.1
    have hkp := hgb.2.2.2.2.2.2.2.2.2.2.1
    have hm1 := hgb.2.2.2.2.2.2.2.2.2.2.2.1
    have hal_ := hgb.2.2.2.2.2.2.2.2.2.2.2.2
    have hal := hal_ (s6_t u6)
    have hz : ∀ c, (s6_cy u6) 5 ≤ c → (s6_ink u6) c = 0 := hP.1.2.1
    have hmz : ∀ c, (s6_cy u6) 5 ≤ c → (s6_mn u6) c = -1 := hP.1.2.2.1
    have hdd9 : (s6_dd u6) ≤ 999 := hP.1.2.2.2.2
    have hw8 := w8_e hG
    have h30 : ¬ (s6_cy u6) 3 = 0 := by omega
    refine ⟨(wrI (W6 E x u6) (if (s6_tr u6) = 4 then (s6_pl u6) else (-1))), (wrI (W8c E k u6 (((s8_q u8), 0, (s8_tr8 u8), (s8_wh u8), (s8_rr u8), (s8_z u8), (s8_nb u8), (s8_wa u8)), g8_1 u8, g8_2 u8, g8_3 u8, g8_4 u8)) ((s8_wh u8))), Ct.perm hp6.symm (Ct.frRI (c_X6_where l E x (s6_xa u6) (s6_g u6) (s6_tr u6) (s6_fl u6) (s6_pl u6) (by first | assumption | omega)) [0] rfl rfl rfl), Ct.perm hp8.symm (Ct.frI (c_X8_where l E k (s8_th u8) (s8_tr8 u8) (s8_wh u8) (s8_g8 u8) (s8_rr u8) (s8_q u8) (upN (upN (upN (upN (s8_z u8) 6 (s6_fd u6)) 12 (s6_fl u6)) 19 (s6_ac u6)) 20 (s6_im u6)) (s8_nb u8) (s8_wa u8) (s8_wd u8) (s8_ev u8) (s8_al u8) (s8_wl u8) ) [0] rfl rfl rfl rfl), fun r w h => ⟨_, h.2⟩, ?_⟩
    rintro r w r' w' ⟨rfl, rfl⟩ ⟨rfl, rfl⟩
    exact ⟨congrArg (fun z => some (Value.int z)) (by rw [← hW.1]; exact hW.2.2.symm), Or.inr ⟨u6, (((s8_q u8), 0, (s8_tr8 u8), (s8_wh u8), (s8_rr u8), (s8_z u8), (s8_nb u8), (s8_wa u8)), g8_1 u8, g8_2 u8, g8_3 u8, g8_4 u8), List.Perm.refl _, List.Perm.refl _, hF, hG, hP, hW⟩⟩
set_option maxRecDepth 100000 in
set_option maxHeartbeats 4000000 in
theorem op_trouble (l : Launch) (E : Et) (x k : Nat)  : OpI E x k (fun w P => Ct l E yX6_trouble cX6_trouble 1 (some .int) 0 0 0 [.ref x] w P) (fun w P => Ct l E yX8_trouble cX8_trouble 1 (some .int) 1 0 0 [.ref k] w P) := by
  intro w6 w8 hv
  rcases hv with hv | hv
  · obtain ⟨u6, u8, hp6, hp8, hF, hN, hW⟩ := hv
    have hfd := hF.1
    have hby := hF.2.1
    have hkw := hF.2.2.1
    have h40z := hF.2.2.2.1
    have h40 := hF.2.2.2.2.1
    have hink2 := hF.2.2.2.2.2.1
    have hwt := hF.2.2.2.2.2.2.1
    have hdy := hF.2.2.2.2.2.2.2.1
    have hds := hF.2.2.2.2.2.2.2.2.1
    have hink := hF.2.2.2.2.2.2.2.2.2.1
    have ht := hF.2.2.2.2.2.2.2.2.2.2.1
    have ho := hF.2.2.2.2.2.2.2.2.2.2.2.1
    have hac := hF.2.2.2.2.2.2.2.2.2.2.2.2.1
    have him := hF.2.2.2.2.2.2.2.2.2.2.2.2.2.1
    have hc0 := hF.2.2.2.2.2.2.2.2.2.2.2.2.2.2.1
    have hc1 := hF.2.2.2.2.2.2.2.2.2.2.2.2.2.2.2.1
    have hc2 := hF.2.2.2.2.2.2.2.2.2.2.2.2.2.2.2.2.1
    have hc3 := hF.2.2.2.2.2.2.2.2.2.2.2.2.2.2.2.2.2.1
    have hc4 := hF.2.2.2.2.2.2.2.2.2.2.2.2.2.2.2.2.2.2.1
    have hc5 := hF.2.2.2.2.2.2.2.2.2.2.2.2.2.2.2.2.2.2.2.1
    have hc6 := hF.2.2.2.2.2.2.2.2.2.2.2.2.2.2.2.2.2.2.2.2.1
    have hc7 := hF.2.2.2.2.2.2.2.2.2.2.2.2.2.2.2.2.2.2.2.2.2
    have htr := hW.1
    have htl := hW.2.1
    have hy0 := hN.1
    have hy3 : (s6_cy u6) 3 = 0 := hy0 3 (by decide)
    have hy4 : (s6_cy u6) 4 = 0 := hy0 4 (by decide)
    have hy5 : (s6_cy u6) 5 = 0 := hy0 5 (by decide)
    have hy6 : (s6_cy u6) 6 = 0 := hy0 6 (by decide)
    refine ⟨(wrI (W6 E x u6) (nI (s6_tr u6))), (wrI (W8n E k u6 (((s8_q u8), 0, (s8_tr8 u8), (s8_wh u8), (s8_rr u8), (s8_z u8), (s8_nb u8), (s8_wa u8)), g8_1 u8, g8_2 u8, g8_3 u8, g8_4 u8)) (nI (s8_tr8 u8))), Ct.perm hp6.symm (Ct.frRI (c_X6_trouble l E x (s6_xa u6) (s6_g u6) (s6_tr u6) (s6_fl u6) (s6_pl u6) ) [0] rfl rfl rfl), Ct.perm hp8.symm (Ct.frI (c_X8_trouble_n l E k (s8_th u8) (s8_tr8 u8) (s8_wh u8) (s8_rr u8) (s8_q u8) (upN (upN (upN (upN (s8_z u8) 6 (s6_fd u6)) 12 (s6_fl u6)) 19 (s6_ac u6)) 20 (s6_im u6)) (s8_nb u8) (s8_wa u8) (s8_wd u8) (s8_ev u8) (s8_al u8) (s8_wl u8) ) [0] rfl rfl rfl rfl), fun r w h => ⟨_, h.2⟩, ?_⟩
    rintro r w r' w' ⟨rfl, rfl⟩ ⟨rfl, rfl⟩
    exact ⟨congrArg (fun z => some (Value.int z)) (congrArg nI hW.1.symm), Or.inl ⟨u6, (((s8_q u8), 0, (s8_tr8 u8), (s8_wh u8), (s8_rr u8), (s8_z u8), (s8_nb u8), (s8_wa u8)), g8_1 u8, g8_2 u8, g8_3 u8, g8_4 u8), List.Perm.refl _, List.Perm.refl _, hF, hN, hW⟩⟩
  · obtain ⟨u6, u8, hp6, hp8, hF, hG, hP, hW⟩ := hv
    have hfd := hF.1
    have hby := hF.2.1
    have hkw := hF.2.2.1
    have h40z := hF.2.2.2.1
    have h40 := hF.2.2.2.2.1
    have hink2 := hF.2.2.2.2.2.1
    have hwt := hF.2.2.2.2.2.2.1
    have hdy := hF.2.2.2.2.2.2.2.1
    have hds := hF.2.2.2.2.2.2.2.2.1
    have hink := hF.2.2.2.2.2.2.2.2.2.1
    have ht := hF.2.2.2.2.2.2.2.2.2.2.1
    have ho := hF.2.2.2.2.2.2.2.2.2.2.2.1
    have hac := hF.2.2.2.2.2.2.2.2.2.2.2.2.1
    have him := hF.2.2.2.2.2.2.2.2.2.2.2.2.2.1
    have hc0 := hF.2.2.2.2.2.2.2.2.2.2.2.2.2.2.1
    have hc1 := hF.2.2.2.2.2.2.2.2.2.2.2.2.2.2.2.1
    have hc2 := hF.2.2.2.2.2.2.2.2.2.2.2.2.2.2.2.2.1
    have hc3 := hF.2.2.2.2.2.2.2.2.2.2.2.2.2.2.2.2.2.1
    have hc4 := hF.2.2.2.2.2.2.2.2.2.2.2.2.2.2.2.2.2.2.1
    have hc5 := hF.2.2.2.2.2.2.2.2.2.2.2.2.2.2.2.2.2.2.2.1
    have hc6 := hF.2.2.2.2.2.2.2.2.2.2.2.2.2.2.2.2.2.2.2.2.1
    have hc7 := hF.2.2.2.2.2.2.2.2.2.2.2.2.2.2.2.2.2.2.2.2.2
    have htr := hW.1
    have htl := hW.2.1
    have hgb := g8_b hc4 hc5 hc7 hG
    have hfo := hgb.1
    have hon := hgb.2.1
    have htw := hgb.2.2.1
    have hFs := hgb.2.2.2.1
    have hFt := hgb.2.2.2.2.1
    have hik := hgb.2.2.2.2.2.1
    have hun := hgb.2.2.2.2.2.2.1
    have hdi := hgb.2.2.2.2.2.2.2.1
    have hd2 := hgb.2.2.2.2.2.2.2.2.1
    have hd3 := hgb.2.2.2.2.2.2.2.2.2.1
    have hkp := hgb.2.2.2.2.2.2.2.2.2.2.1
    have hm1 := hgb.2.2.2.2.2.2.2.2.2.2.2.1
    have hal_ := hgb.2.2.2.2.2.2.2.2.2.2.2.2
    have hal := hal_ (s6_t u6)
    have hz : ∀ c, (s6_cy u6) 5 ≤ c → (s6_ink u6) c = 0 := hP.1.2.1
    have hmz : ∀ c, (s6_cy u6) 5 ≤ c → (s6_mn u6) c = -1 := hP.1.2.2.1
    have hdd9 : (s6_dd u6) ≤ 999 := hP.1.2.2.2.2
    have hw8 := w8_e hG
    have h30 : ¬ (s6_cy u6) 3 = 0 := by omega
    refine ⟨(wrI (W6 E x u6) (nI (s6_tr u6))), (wrI (W8c E k u6 (((s8_q u8), 0, (s8_tr8 u8), (s8_wh u8), (s8_rr u8), (s8_z u8), (s8_nb u8), (s8_wa u8)), g8_1 u8, g8_2 u8, g8_3 u8, g8_4 u8)) (nI (s8_tr8 u8))), Ct.perm hp6.symm (Ct.frRI (c_X6_trouble l E x (s6_xa u6) (s6_g u6) (s6_tr u6) (s6_fl u6) (s6_pl u6) ) [0] rfl rfl rfl), Ct.perm hp8.symm (Ct.frI (c_X8_trouble l E k (s8_th u8) (s8_tr8 u8) (s8_wh u8) (s8_g8 u8) (s8_rr u8) (s8_q u8) (upN (upN (upN (upN (s8_z u8) 6 (s6_fd u6)) 12 (s6_fl u6)) 19 (s6_ac u6)) 20 (s6_im u6)) (s8_nb u8) (s8_wa u8) (s8_wd u8) (s8_ev u8) (s8_al u8) (s8_wl u8) ) [0] rfl rfl rfl rfl), fun r w h => ⟨_, h.2⟩, ?_⟩
    rintro r w r' w' ⟨rfl, rfl⟩ ⟨rfl, rfl⟩
    exact ⟨congrArg (fun z => some (Value.int z)) (congrArg nI hW.1.symm), Or.inr ⟨u6, (((s8_q u8), 0, (s8_tr8 u8), (s8_wh u8), (s8_rr u8), (s8_z u8), (s8_nb u8), (s8_wa u8)), g8_1 u8, g8_2 u8, g8_3 u8, g8_4 u8), List.Perm.refl _, List.Perm.refl _, hF, hG, hP, hW⟩⟩
set_option maxRecDepth 100000 in
set_option maxHeartbeats 4000000 in
theorem op_size (l : Launch) (E : Et) (x k : Nat) (p1 : Int32) : OpI E x k (fun w P => Ct l E yX6_size cX6_size 2 (some .int) 0 0 0 [.ref x, .int p1] w P) (fun w P => Ct l E yX8_size cX8_size 2 (some .int) 5 0 0 [.ref k, .int p1] w P) := by
  intro w6 w8 hv
  rcases hv with hv | hv
  · obtain ⟨u6, u8, hp6, hp8, hF, hN, hW⟩ := hv
    have hfd := hF.1
    have hby := hF.2.1
    have hkw := hF.2.2.1
    have h40z := hF.2.2.2.1
    have h40 := hF.2.2.2.2.1
    have hink2 := hF.2.2.2.2.2.1
    have hwt := hF.2.2.2.2.2.2.1
    have hdy := hF.2.2.2.2.2.2.2.1
    have hds := hF.2.2.2.2.2.2.2.2.1
    have hink := hF.2.2.2.2.2.2.2.2.2.1
    have ht := hF.2.2.2.2.2.2.2.2.2.2.1
    have ho := hF.2.2.2.2.2.2.2.2.2.2.2.1
    have hac := hF.2.2.2.2.2.2.2.2.2.2.2.2.1
    have him := hF.2.2.2.2.2.2.2.2.2.2.2.2.2.1
    have hc0 := hF.2.2.2.2.2.2.2.2.2.2.2.2.2.2.1
    have hc1 := hF.2.2.2.2.2.2.2.2.2.2.2.2.2.2.2.1
    have hc2 := hF.2.2.2.2.2.2.2.2.2.2.2.2.2.2.2.2.1
    have hc3 := hF.2.2.2.2.2.2.2.2.2.2.2.2.2.2.2.2.2.1
    have hc4 := hF.2.2.2.2.2.2.2.2.2.2.2.2.2.2.2.2.2.2.1
    have hc5 := hF.2.2.2.2.2.2.2.2.2.2.2.2.2.2.2.2.2.2.2.1
    have hc6 := hF.2.2.2.2.2.2.2.2.2.2.2.2.2.2.2.2.2.2.2.2.1
    have hc7 := hF.2.2.2.2.2.2.2.2.2.2.2.2.2.2.2.2.2.2.2.2.2
    have htr := hW.1
    have htl := hW.2.1
    have hy0 := hN.1
    have hy3 : (s6_cy u6) 3 = 0 := hy0 3 (by decide)
    have hy4 : (s6_cy u6) 4 = 0 := hy0 4 (by decide)
    have hy5 : (s6_cy u6) 5 = 0 := hy0 5 (by decide)
    have hy6 : (s6_cy u6) 6 = 0 := hy0 6 (by decide)
    by_cases hs0 : 0 ≤ p1 ∧ p1 ≤ nI 11
    · have hs1 := hs0
      obtain ⟨d0, hd0, rfl⟩ := rg_nat (by decide) hs0
      have hd31 : d0 < 2 ^ 31 := by omega
      refine ⟨(wrI (W6 E x u6) (if (nI d0).toInt < 0 ∨ (11 : Int) < (nI d0).toInt then (-1) else nI (szV (s6_cy u6) (s6_dd u6) (s6_ac u6) (s6_im u6) (s6_fd u6) (tn (nI d0))))), (wrI (W8n E k u6 (((s8_q u8), 0, (s8_tr8 u8), (s8_wh u8), (s8_rr u8), (s8_z u8), (s8_nb u8), (s8_wa u8)), g8_1 u8, g8_2 u8, g8_3 u8, g8_4 u8)) (nI (if d0 = 11 then (s6_fd u6) else 0))), Ct.perm hp6.symm (Ct.frRI (c_X6_size l E x (s6_xa u6) (s6_g u6) (s6_tr u6) (s6_fl u6) (s6_pl u6) (s6_cy u6) (s6_ca u6) (s6_hi u6) (s6_hm u6) (s6_t u6) (s6_dd u6) (s6_pq u6) (s6_o u6) (s6_ac u6) (s6_im u6) (s6_ra u6) (s6_fd u6) (s6_re u6) (s6_rk u6) (s6_rp u6) (s6_rn u6) (s6_rv u6) (s6_rh u6) (s6_rc u6) (s6_rf u6) (s6_rw u6) (nI d0) ) [0, 20, 36, 42, 1] rfl rfl rfl), Ct.perm hp8.symm (Ct.frI (c_X8_size_n l E k (s8_th u8) (s8_tr8 u8) (s8_wh u8) (s8_rr u8) (s8_q u8) (upN (upN (upN (s8_z u8) 12 (s6_fl u6)) 19 (s6_ac u6)) 20 (s6_im u6)) (s8_nb u8) (s8_wa u8) (s8_wd u8) (s8_ev u8) (s8_al u8) (s8_wl u8) (s6_fd u6) d0 (hd0)) [0] rfl rfl rfl rfl), fun r w h => ⟨_, h.2⟩, ?_⟩
      rintro r w r' w' ⟨rfl, rfl⟩ ⟨rfl, rfl⟩
      exact ⟨congrArg (fun z => some (Value.int z)) ((if_neg (fun z => (ti_e (n := 11) (by decide)).mp z hs1)).trans (by rw [tn_n hd31, sz_0 hN hd0])), Or.inl ⟨u6, (((s8_q u8), 0, (s8_tr8 u8), (s8_wh u8), (s8_rr u8), (s8_z u8), (s8_nb u8), (s8_wa u8)), g8_1 u8, g8_2 u8, g8_3 u8, g8_4 u8), List.Perm.refl _, List.Perm.refl _, hF, hN, hW⟩⟩
    · refine ⟨(wrI (W6 E x u6) (if p1.toInt < 0 ∨ (11 : Int) < p1.toInt then (-1) else nI (szV (s6_cy u6) (s6_dd u6) (s6_ac u6) (s6_im u6) (s6_fd u6) (tn p1)))), (wrI (W8n E k u6 (((s8_q u8), 0, (s8_tr8 u8), (s8_wh u8), (s8_rr u8), (s8_z u8), (s8_nb u8), (s8_wa u8)), g8_1 u8, g8_2 u8, g8_3 u8, g8_4 u8)) ((-1))), Ct.perm hp6.symm (Ct.frRI (c_X6_size l E x (s6_xa u6) (s6_g u6) (s6_tr u6) (s6_fl u6) (s6_pl u6) (s6_cy u6) (s6_ca u6) (s6_hi u6) (s6_hm u6) (s6_t u6) (s6_dd u6) (s6_pq u6) (s6_o u6) (s6_ac u6) (s6_im u6) (s6_ra u6) (s6_fd u6) (s6_re u6) (s6_rk u6) (s6_rp u6) (s6_rn u6) (s6_rv u6) (s6_rh u6) (s6_rc u6) (s6_rf u6) (s6_rw u6) p1 ) [0, 20, 36, 42, 1] rfl rfl rfl), Ct.perm hp8.symm (Ct.frI (c_X8_size_nno l E k (s8_th u8) (s8_tr8 u8) (s8_wh u8) (s8_rr u8) (s8_q u8) (upN (upN (upN (upN (s8_z u8) 6 (s6_fd u6)) 12 (s6_fl u6)) 19 (s6_ac u6)) 20 (s6_im u6)) (s8_nb u8) (s8_wa u8) (s8_wd u8) (s8_ev u8) (s8_al u8) (s8_wl u8) p1 ((ti_e (n := 11) (by decide)).mpr hs0)) [0] rfl rfl rfl rfl), fun r w h => ⟨_, h.2⟩, ?_⟩
      rintro r w r' w' ⟨rfl, rfl⟩ ⟨rfl, rfl⟩
      exact ⟨congrArg (fun z => some (Value.int z)) (if_pos ((ti_e (n := 11) (by decide)).mpr hs0)), Or.inl ⟨u6, (((s8_q u8), 0, (s8_tr8 u8), (s8_wh u8), (s8_rr u8), (s8_z u8), (s8_nb u8), (s8_wa u8)), g8_1 u8, g8_2 u8, g8_3 u8, g8_4 u8), List.Perm.refl _, List.Perm.refl _, hF, hN, hW⟩⟩
  · obtain ⟨u6, u8, hp6, hp8, hF, hG, hP, hW⟩ := hv
    have hfd := hF.1
    have hby := hF.2.1
    have hkw := hF.2.2.1
    have h40z := hF.2.2.2.1
    have h40 := hF.2.2.2.2.1
    have hink2 := hF.2.2.2.2.2.1
    have hwt := hF.2.2.2.2.2.2.1
    have hdy := hF.2.2.2.2.2.2.2.1
    have hds := hF.2.2.2.2.2.2.2.2.1
    have hink := hF.2.2.2.2.2.2.2.2.2.1
    have ht := hF.2.2.2.2.2.2.2.2.2.2.1
    have ho := hF.2.2.2.2.2.2.2.2.2.2.2.1
    have hac := hF.2.2.2.2.2.2.2.2.2.2.2.2.1
    have him := hF.2.2.2.2.2.2.2.2.2.2.2.2.2.1
    have hc0 := hF.2.2.2.2.2.2.2.2.2.2.2.2.2.2.1
    have hc1 := hF.2.2.2.2.2.2.2.2.2.2.2.2.2.2.2.1
    have hc2 := hF.2.2.2.2.2.2.2.2.2.2.2.2.2.2.2.2.1
    have hc3 := hF.2.2.2.2.2.2.2.2.2.2.2.2.2.2.2.2.2.1
    have hc4 := hF.2.2.2.2.2.2.2.2.2.2.2.2.2.2.2.2.2.2.1
    have hc5 := hF.2.2.2.2.2.2.2.2.2.2.2.2.2.2.2.2.2.2.2.1
    have hc6 := hF.2.2.2.2.2.2.2.2.2.2.2.2.2.2.2.2.2.2.2.2.1
    have hc7 := hF.2.2.2.2.2.2.2.2.2.2.2.2.2.2.2.2.2.2.2.2.2
    have htr := hW.1
    have htl := hW.2.1
    have hgb := g8_b hc4 hc5 hc7 hG
    have hfo := hgb.1
    have hon := hgb.2.1
    have htw := hgb.2.2.1
    have hFs := hgb.2.2.2.1
    have hFt := hgb.2.2.2.2.1
    have hik := hgb.2.2.2.2.2.1
    have hun := hgb.2.2.2.2.2.2.1
    have hdi := hgb.2.2.2.2.2.2.2.1
    have hd2 := hgb.2.2.2.2.2.2.2.2.1
    have hd3 := hgb.2.2.2.2.2.2.2.2.2.1
    have hkp := hgb.2.2.2.2.2.2.2.2.2.2.1
    have hm1 := hgb.2.2.2.2.2.2.2.2.2.2.2.1
    have hal_ := hgb.2.2.2.2.2.2.2.2.2.2.2.2
    have hal := hal_ (s6_t u6)
    have hz : ∀ c, (s6_cy u6) 5 ≤ c → (s6_ink u6) c = 0 := hP.1.2.1
    have hmz : ∀ c, (s6_cy u6) 5 ≤ c → (s6_mn u6) c = -1 := hP.1.2.2.1
    have hdd9 : (s6_dd u6) ≤ 999 := hP.1.2.2.2.2
    have hw8 := w8_e hG
    have h30 : ¬ (s6_cy u6) 3 = 0 := by omega
    by_cases hs0 : 0 ≤ p1 ∧ p1 ≤ nI 11
    · have hs1 := hs0
      obtain ⟨d0, hd0, rfl⟩ := rg_nat (by decide) hs0
      have hd31 : d0 < 2 ^ 31 := by omega
      refine ⟨(wrI (W6 E x u6) (if (nI d0).toInt < 0 ∨ (11 : Int) < (nI d0).toInt then (-1) else nI (szV (s6_cy u6) (s6_dd u6) (s6_ac u6) (s6_im u6) (s6_fd u6) (tn (nI d0))))), (wrI (W8c E k u6 (((s8_q u8), 0, (s8_tr8 u8), (s8_wh u8), (s8_rr u8), (s8_z u8), (s8_nb u8), (s8_wa u8)), g8_1 u8, g8_2 u8, g8_3 u8, g8_4 u8)) (nI (szV (s6_cy u6) (s6_dd u6) (s6_ac u6) (s6_im u6) (s6_fd u6) d0))), Ct.perm hp6.symm (Ct.frRI (c_X6_size l E x (s6_xa u6) (s6_g u6) (s6_tr u6) (s6_fl u6) (s6_pl u6) (s6_cy u6) (s6_ca u6) (s6_hi u6) (s6_hm u6) (s6_t u6) (s6_dd u6) (s6_pq u6) (s6_o u6) (s6_ac u6) (s6_im u6) (s6_ra u6) (s6_fd u6) (s6_re u6) (s6_rk u6) (s6_rp u6) (s6_rn u6) (s6_rv u6) (s6_rh u6) (s6_rc u6) (s6_rf u6) (s6_rw u6) (nI d0) ) [0, 20, 36, 42, 1] rfl rfl rfl), Ct.perm hp8.symm (Ct.frI (c_X8_size l E k (s8_th u8) (s8_tr8 u8) (s8_wh u8) (s8_g8 u8) (s8_rr u8) (s8_q u8) (upN (s8_z u8) 12 (s6_fl u6)) (s8_nb u8) (s8_wa u8) (s8_wd u8) (s8_ev u8) (s8_al u8) (s8_wl u8) (s6_fd u6) (s6_ac u6) (s6_im u6) (s6_cy u6) (s8_kp u8) (s8_nc u8) (s8_cb u8) (s6_mn u6) (s6_ink u6) (s6_t u6) (s6_dd u6) d0 (hd0)) [0, 10, 2] rfl rfl rfl rfl), fun r w h => ⟨_, h.2⟩, ?_⟩
      rintro r w r' w' ⟨rfl, rfl⟩ ⟨rfl, rfl⟩
      exact ⟨congrArg (fun z => some (Value.int z)) ((if_neg (fun z => (ti_e (n := 11) (by decide)).mp z hs1)).trans (by rw [tn_n hd31])), Or.inr ⟨u6, (((s8_q u8), 0, (s8_tr8 u8), (s8_wh u8), (s8_rr u8), (s8_z u8), (s8_nb u8), (s8_wa u8)), g8_1 u8, g8_2 u8, g8_3 u8, g8_4 u8), List.Perm.refl _, List.Perm.refl _, hF, hG, hP, hW⟩⟩
    · refine ⟨(wrI (W6 E x u6) (if p1.toInt < 0 ∨ (11 : Int) < p1.toInt then (-1) else nI (szV (s6_cy u6) (s6_dd u6) (s6_ac u6) (s6_im u6) (s6_fd u6) (tn p1)))), (wrI (W8c E k u6 (((s8_q u8), 0, (s8_tr8 u8), (s8_wh u8), (s8_rr u8), (s8_z u8), (s8_nb u8), (s8_wa u8)), g8_1 u8, g8_2 u8, g8_3 u8, g8_4 u8)) ((-1))), Ct.perm hp6.symm (Ct.frRI (c_X6_size l E x (s6_xa u6) (s6_g u6) (s6_tr u6) (s6_fl u6) (s6_pl u6) (s6_cy u6) (s6_ca u6) (s6_hi u6) (s6_hm u6) (s6_t u6) (s6_dd u6) (s6_pq u6) (s6_o u6) (s6_ac u6) (s6_im u6) (s6_ra u6) (s6_fd u6) (s6_re u6) (s6_rk u6) (s6_rp u6) (s6_rn u6) (s6_rv u6) (s6_rh u6) (s6_rc u6) (s6_rf u6) (s6_rw u6) p1 ) [0, 20, 36, 42, 1] rfl rfl rfl), Ct.perm hp8.symm (Ct.frI (c_X8_size_no l E k (s8_th u8) (s8_tr8 u8) (s8_wh u8) (s8_g8 u8) (s8_rr u8) (s8_q u8) (upN (upN (upN (upN (s8_z u8) 6 (s6_fd u6)) 12 (s6_fl u6)) 19 (s6_ac u6)) 20 (s6_im u6)) (s8_nb u8) (s8_wa u8) (s8_wd u8) (s8_ev u8) (s8_al u8) (s8_wl u8) (s6_cy u6) (s8_kp u8) (s8_nc u8) (s8_cb u8) p1 ((ti_e (n := 11) (by decide)).mpr hs0)) [0, 10] rfl rfl rfl rfl), fun r w h => ⟨_, h.2⟩, ?_⟩
      rintro r w r' w' ⟨rfl, rfl⟩ ⟨rfl, rfl⟩
      exact ⟨congrArg (fun z => some (Value.int z)) (if_pos ((ti_e (n := 11) (by decide)).mpr hs0)), Or.inr ⟨u6, (((s8_q u8), 0, (s8_tr8 u8), (s8_wh u8), (s8_rr u8), (s8_z u8), (s8_nb u8), (s8_wa u8)), g8_1 u8, g8_2 u8, g8_3 u8, g8_4 u8), List.Perm.refl _, List.Perm.refl _, hF, hG, hP, hW⟩⟩
