set_option maxRecDepth 100000 in
set_option maxHeartbeats 4000000 in
theorem op_ways (l : Launch) (E : Et) (x k : Nat) (p1 : Int32) : OpI E x k (fun w P => Ct l E yX6_ways cX6_ways 2 (some .int) 6 0 0 [.ref x, .int p1] w P) (fun w P => Ct l E yX8_ways cX8_ways 2 (some .int) 5 0 0 [.ref k, .int p1] w P) := by
  intro w6 w8 hv
  rcases hv with hv | hv
  · obtain ⟨s, r, hp6, hp8, hF, hN, hW⟩ := hv
    have hfd := hF.1
    have hby := hF.2.1
    have hkw := hF.2.2.1
    have h40z := hF.2.2.2.1
    have h40 := hF.2.2.2.2.1
    have hink2 := hF.2.2.2.2.2.1
    have hwt := hF.2.2.2.2.2.2.1
    have hdy := hF.2.2.2.2.2.2.2.1
    have hds := hF.2.2.2.2.2.2.2.2.1
    have hink := hF.2.2.2.2.2.2.2.2.2.1
    have ht := hF.2.2.2.2.2.2.2.2.2.2.1
    have ho := hF.2.2.2.2.2.2.2.2.2.2.2.1
    have hac := hF.2.2.2.2.2.2.2.2.2.2.2.2.1
    have him := hF.2.2.2.2.2.2.2.2.2.2.2.2.2.1
    have hc0 := hF.2.2.2.2.2.2.2.2.2.2.2.2.2.2.1
    have hc1 := hF.2.2.2.2.2.2.2.2.2.2.2.2.2.2.2.1
    have hc2 := hF.2.2.2.2.2.2.2.2.2.2.2.2.2.2.2.2.1
    have hc3 := hF.2.2.2.2.2.2.2.2.2.2.2.2.2.2.2.2.2.1
    have hc4 := hF.2.2.2.2.2.2.2.2.2.2.2.2.2.2.2.2.2.2.1
    have hc5 := hF.2.2.2.2.2.2.2.2.2.2.2.2.2.2.2.2.2.2.2.1
    have hc6 := hF.2.2.2.2.2.2.2.2.2.2.2.2.2.2.2.2.2.2.2.2.1
    have hc7 := hF.2.2.2.2.2.2.2.2.2.2.2.2.2.2.2.2.2.2.2.2.2
    have htr := hW.1
    have htl := hW.2.1
    have hy0 := hN.1
    have hy3 : (s6_cy s) 3 = 0 := hy0 3 (by decide)
    have hy4 : (s6_cy s) 4 = 0 := hy0 4 (by decide)
    have hy5 : (s6_cy s) 5 = 0 := hy0 5 (by decide)
    have hy6 : (s6_cy s) 6 = 0 := hy0 6 (by decide)
    refine ⟨(wrI (W6 E x (((s6_g s), (s6_xa s), (s6_ra s), (s6_caz s), (s6_ca s), (s6_pq s), (s6_fl s), (if okM p1 ((s6_cy s) 3) then 0 else 1)), g6_1 s, g6_2 s, g6_3 s, g6_4 s, g6_5 s, g6_6 s, g6_7 s, g6_8 s, g6_9 s, g6_10 s)) (if okM p1 ((s6_cy s) 3) then nI (pop64 (kpN (s6_cy s) (s6_Fs s) (s6_Ft s) (s6_t s) (bdN (s6_ink s) (s6_mn s) p1 0))) else (-1))), (wrI (W8n E k (((s6_g s), (s6_xa s), (s6_ra s), (s6_caz s), (s6_ca s), (s6_pq s), (s6_fl s), (if okM p1 ((s6_cy s) 3) then 0 else 1)), g6_1 s, g6_2 s, g6_3 s, g6_4 s, g6_5 s, g6_6 s, g6_7 s, g6_8 s, g6_9 s, g6_10 s) (((s8_q r), 0, 1, (-1), (s8_rr r), (s8_z r), (s8_nb r), (s8_wa r)), g8_1 r, g8_2 r, g8_3 r, g8_4 r)) ((-1))), Ct.perm hp6.symm (Ct.frI (c_X6_ways l E x (s6_xa s) (s6_g s) (s6_tr s) (s6_fl s) (s6_pl s) (s6_cy s) (s6_ca s) (s6_Fs s) (s6_Ft s) (s6_hi s) (s6_hm s) (s6_t s) (s6_dd s) (s6_ink s) (s6_mn s) p1 (by first | assumption | omega) (by first | assumption | omega) (by first | assumption | omega) (by first | assumption | omega) (by first | assumption | omega)) [0, 20, 26, 27, 36, 37, 38] rfl rfl rfl rfl), Ct.perm hp8.symm (Ct.frI (c_X8_ways_n l E k (s8_th r) (s8_tr8 r) (s8_wh r) (s8_rr r) (s8_q r) (upN (upN (upN (upN (s8_z r) 6 (s6_fd s)) 12 (s6_fl s)) 19 (s6_ac s)) 20 (s6_im s)) (s8_nb r) (s8_wa r) (s8_wd r) (s8_ev r) (s8_al r) (s8_wl r) p1 ) [0] rfl rfl rfl rfl), fun r w h => ⟨_, h.2⟩, ?_⟩
    rintro r w r' w' ⟨rfl, rfl⟩ ⟨rfl, rfl⟩
    exact ⟨congrArg (fun z => some (Value.int z)) (if_neg (okM_0 hy3)), Or.inl ⟨(((s6_g s), (s6_xa s), (s6_ra s), (s6_caz s), (s6_ca s), (s6_pq s), (s6_fl s), (if okM p1 ((s6_cy s) 3) then 0 else 1)), g6_1 s, g6_2 s, g6_3 s, g6_4 s, g6_5 s, g6_6 s, g6_7 s, g6_8 s, g6_9 s, g6_10 s), (((s8_q r), 0, 1, (-1), (s8_rr r), (s8_z r), (s8_nb r), (s8_wa r)), g8_1 r, g8_2 r, g8_3 r, g8_4 r), List.Perm.refl _, List.Perm.refl _, hF, hN, (if_neg (okM_0 hy3)).symm, by decide, (if_neg (by decide)).symm⟩⟩
  · obtain ⟨s, r, hp6, hp8, hF, hG, hP, hW⟩ := hv
    have hfd := hF.1
    have hby := hF.2.1
    have hkw := hF.2.2.1
    have h40z := hF.2.2.2.1
    have h40 := hF.2.2.2.2.1
    have hink2 := hF.2.2.2.2.2.1
    have hwt := hF.2.2.2.2.2.2.1
    have hdy := hF.2.2.2.2.2.2.2.1
    have hds := hF.2.2.2.2.2.2.2.2.1
    have hink := hF.2.2.2.2.2.2.2.2.2.1
    have ht := hF.2.2.2.2.2.2.2.2.2.2.1
    have ho := hF.2.2.2.2.2.2.2.2.2.2.2.1
    have hac := hF.2.2.2.2.2.2.2.2.2.2.2.2.1
    have him := hF.2.2.2.2.2.2.2.2.2.2.2.2.2.1
    have hc0 := hF.2.2.2.2.2.2.2.2.2.2.2.2.2.2.1
    have hc1 := hF.2.2.2.2.2.2.2.2.2.2.2.2.2.2.2.1
    have hc2 := hF.2.2.2.2.2.2.2.2.2.2.2.2.2.2.2.2.1
    have hc3 := hF.2.2.2.2.2.2.2.2.2.2.2.2.2.2.2.2.2.1
    have hc4 := hF.2.2.2.2.2.2.2.2.2.2.2.2.2.2.2.2.2.2.1
    have hc5 := hF.2.2.2.2.2.2.2.2.2.2.2.2.2.2.2.2.2.2.2.1
    have hc6 := hF.2.2.2.2.2.2.2.2.2.2.2.2.2.2.2.2.2.2.2.2.1
    have hc7 := hF.2.2.2.2.2.2.2.2.2.2.2.2.2.2.2.2.2.2.2.2.2
    have htr := hW.1
    have htl := hW.2.1
    have hgb := g8_b hc4 hc5 hc7 hG
    have hfo := hgb.1
    have hon := hgb.2.1
    have htw := hgb.2.2.1
    have hFs := hgb.2.2.2.1
    have hFt := hgb.2.2.2.2.1
    have hik := hgb.2.2.2.2.2.1
    have hun := hgb.2.2.2.2.2.2.1
    have hdi := hgb.2.2.2.2.2.2.2.1
    have hd2 := hgb.2.2.2.2.2.2.2.2.1
    have hd3 := hgb.2.2.2.2.2.2.2.2.2.1
    have hkp := hgb.2.2.2.2.2.2.2.2.2.2.1
    have hm1 := hgb.2.2.2.2.2.2.2.2.2.2.2.1
    have hal_ := hgb.2.2.2.2.2.2.2.2.2.2.2.2
    have hal := hal_ (s6_t s)
    have hz : ∀ c, (s6_cy s) 5 ≤ c → (s6_ink s) c = 0 := hP.1.2.1
    have hmz : ∀ c, (s6_cy s) 5 ≤ c → (s6_mn s) c = -1 := hP.1.2.2.1
    have hdd9 : (s6_dd s) ≤ 999 := hP.1.2.2.2.2
    have hw8 := w8_e hG
    have h30 : ¬ (s6_cy s) 3 = 0 := by omega
    by_cases hok : okM p1 ((s6_cy s) 3)
    · refine ⟨(wrI (W6 E x (((s6_g s), (s6_xa s), (s6_ra s), (s6_caz s), (s6_ca s), (s6_pq s), (s6_fl s), (if okM p1 ((s6_cy s) 3) then 0 else 1)), g6_1 s, g6_2 s, g6_3 s, g6_4 s, g6_5 s, g6_6 s, g6_7 s, g6_8 s, g6_9 s, g6_10 s)) (if okM p1 ((s6_cy s) 3) then nI (pop64 (kpN (s6_cy s) (s6_Fs s) (s6_Ft s) (s6_t s) (bdN (s6_ink s) (s6_mn s) p1 0))) else (-1))), (wrI (W8c E k (((s6_g s), (s6_xa s), (s6_ra s), (s6_caz s), (s6_ca s), (s6_pq s), (s6_fl s), (if okM p1 ((s6_cy s) 3) then 0 else 1)), g6_1 s, g6_2 s, g6_3 s, g6_4 s, g6_5 s, g6_6 s, g6_7 s, g6_8 s, g6_9 s, g6_10 s) (((s8_q r), 0, 0, (-1), (s8_rr r), (s8_z r), (s8_nb r), (s8_wa r)), ((s8_wd r), (allS ((s6_cy s) 4)), (s8_al r), (s8_wl r), (xF (s6_mn s) (s6_ink s) (s6_t s) (s6_dd s)), (s8_pp r), (s8_pj8 r), (lyF (s6_Fs s) (s6_Ft s) (s6_t s) ((s6_cy s) 4) (s8_ke r) ((s6_cy s) 5))), g8_2 r, g8_3 r, g8_4 r)) (nI (pop64 (kpN (s6_cy s) (s6_Fs s) (s6_Ft s) (s6_t s) (bdN (s6_ink s) (s6_mn s) p1 0))))), Ct.perm hp6.symm (Ct.frI (c_X6_ways l E x (s6_xa s) (s6_g s) (s6_tr s) (s6_fl s) (s6_pl s) (s6_cy s) (s6_ca s) (s6_Fs s) (s6_Ft s) (s6_hi s) (s6_hm s) (s6_t s) (s6_dd s) (s6_ink s) (s6_mn s) p1 (by first | assumption | omega) (by first | assumption | omega) (by first | assumption | omega) (by first | assumption | omega) (by first | assumption | omega)) [0, 20, 26, 27, 36, 37, 38] rfl rfl rfl rfl), Ct.perm hp8.symm (Ct.frI (c_X8_ways l E k (s8_th r) (s8_tr8 r) (s8_wh r) (s8_g8 r) (s8_rr r) (s8_q r) (upN (upN (upN (upN (s8_z r) 6 (s6_fd s)) 12 (s6_fl s)) 19 (s6_ac s)) 20 (s6_im s)) (s8_nb r) (s8_wa r) (s8_wd r) (s8_ev r) (s8_al r) (s8_wl r) (s6_cy s) (s8_kp r) (s8_nc r) (s8_cb r) (s8_gf r) (s8_go_ r) (s8_gt_ r) (s8_xf r) (s6_mn s) (s6_ink s) (s6_t s) (s6_dd s) (s6_Fs s) (s6_Ft s) (s8_ke r) p1 (by first | assumption | omega) (by first | assumption | omega) (by first | assumption | omega) (by first | assumption | omega) (by first | assumption | omega) (by first | assumption | omega) (by first | assumption | omega) (by first | assumption | omega) (by first | assumption | omega) (by first | assumption | omega)) [0, 10, 13, 14, 15, 2, 3, 6] rfl rfl rfl rfl), fun r w h => ⟨_, h.2⟩, ?_⟩
      rintro r w r' w' ⟨rfl, rfl⟩ ⟨rfl, rfl⟩
      exact ⟨congrArg (fun z => some (Value.int z)) (if_pos hok), Or.inr ⟨(((s6_g s), (s6_xa s), (s6_ra s), (s6_caz s), (s6_ca s), (s6_pq s), (s6_fl s), (if okM p1 ((s6_cy s) 3) then 0 else 1)), g6_1 s, g6_2 s, g6_3 s, g6_4 s, g6_5 s, g6_6 s, g6_7 s, g6_8 s, g6_9 s, g6_10 s), (((s8_q r), 0, 0, (-1), (s8_rr r), (s8_z r), (s8_nb r), (s8_wa r)), ((s8_wd r), (allS ((s6_cy s) 4)), (s8_al r), (s8_wl r), (xF (s6_mn s) (s6_ink s) (s6_t s) (s6_dd s)), (s8_pp r), (s8_pj8 r), (lyF (s6_Fs s) (s6_Ft s) (s6_t s) ((s6_cy s) 4) (s8_ke r) ((s6_cy s) 5))), g8_2 r, g8_3 r, g8_4 r), List.Perm.refl _, List.Perm.refl _, hF, hG, hP, (if_pos hok).symm, by decide, (if_neg (by decide)).symm⟩⟩
    · refine ⟨(wrI (W6 E x (((s6_g s), (s6_xa s), (s6_ra s), (s6_caz s), (s6_ca s), (s6_pq s), (s6_fl s), (if okM p1 ((s6_cy s) 3) then 0 else 1)), g6_1 s, g6_2 s, g6_3 s, g6_4 s, g6_5 s, g6_6 s, g6_7 s, g6_8 s, g6_9 s, g6_10 s)) (if okM p1 ((s6_cy s) 3) then nI (pop64 (kpN (s6_cy s) (s6_Fs s) (s6_Ft s) (s6_t s) (bdN (s6_ink s) (s6_mn s) p1 0))) else (-1))), (wrI (W8c E k (((s6_g s), (s6_xa s), (s6_ra s), (s6_caz s), (s6_ca s), (s6_pq s), (s6_fl s), (if okM p1 ((s6_cy s) 3) then 0 else 1)), g6_1 s, g6_2 s, g6_3 s, g6_4 s, g6_5 s, g6_6 s, g6_7 s, g6_8 s, g6_9 s, g6_10 s) (((s8_q r), 0, 1, (-1), (s8_rr r), (s8_z r), (s8_nb r), (s8_wa r)), g8_1 r, g8_2 r, g8_3 r, g8_4 r)) ((-1))), Ct.perm hp6.symm (Ct.frI (c_X6_ways l E x (s6_xa s) (s6_g s) (s6_tr s) (s6_fl s) (s6_pl s) (s6_cy s) (s6_ca s) (s6_Fs s) (s6_Ft s) (s6_hi s) (s6_hm s) (s6_t s) (s6_dd s) (s6_ink s) (s6_mn s) p1 (by first | assumption | omega) (by first | assumption | omega) (by first | assumption | omega) (by first | assumption | omega) (by first | assumption | omega)) [0, 20, 26, 27, 36, 37, 38] rfl rfl rfl rfl), Ct.perm hp8.symm (Ct.frI (c_X8_ways_no l E k (s8_th r) (s8_tr8 r) (s8_wh r) (s8_g8 r) (s8_rr r) (s8_q r) (upN (upN (upN (upN (s8_z r) 6 (s6_fd s)) 12 (s6_fl s)) 19 (s6_ac s)) 20 (s6_im s)) (s8_nb r) (s8_wa r) (s8_wd r) (s8_ev r) (s8_al r) (s8_wl r) (s6_cy s) (s8_kp r) (s8_nc r) (s8_cb r) p1 (by first | assumption | omega)) [0, 10] rfl rfl rfl rfl), fun r w h => ⟨_, h.2⟩, ?_⟩
      rintro r w r' w' ⟨rfl, rfl⟩ ⟨rfl, rfl⟩
      exact ⟨congrArg (fun z => some (Value.int z)) (if_neg hok), Or.inr ⟨(((s6_g s), (s6_xa s), (s6_ra s), (s6_caz s), (s6_ca s), (s6_pq s), (s6_fl s), (if okM p1 ((s6_cy s) 3) then 0 else 1)), g6_1 s, g6_2 s, g6_3 s, g6_4 s, g6_5 s, g6_6 s, g6_7 s, g6_8 s, g6_9 s, g6_10 s), (((s8_q r), 0, 1, (-1), (s8_rr r), (s8_z r), (s8_nb r), (s8_wa r)), g8_1 r, g8_2 r, g8_3 r, g8_4 r), List.Perm.refl _, List.Perm.refl _, hF, hG, hP, (if_neg hok).symm, by decide, (if_neg (by decide)).symm⟩⟩
