theorem kn_lt {k : Tk} {so nc x : Nat} {kwd : Nat → Int64} {nm : Rnm} {na : Nat → Int64} {ns nu : Nat → Nat} (hn : NR nm nc na ns nu) (hu : ∀ i, i < nc → nu i < 8) (h : knS kwd so nm k = .inr x) : x < 8 := by
  unfold knS at h
  split at h
  · split at h
    · cases h
    · rename_i q hq
      split at h
      · have hl := (fst_lt _ _ _ hq).1
        cases h
        rw [← (hn.2 q (by omega)).2.1]
        exact hu q (by rw [hn.1]; omega)
      · cases h
  · cases h
theorem tb_us {un uc : Nat → Nat} {n x : Nat} (h : ∀ j, j < n → un j = uc j) : (tbF uc (2 ^ n - 1) n).testBit x = (fst_ (fun i => decide (un i = x)) n 0).isSome := by
  rw [Bool.eq_iff_iff, fst_isS]
  constructor
  · intro hb
    rcases Classical.em (∃ m, m < n ∧ decide (un m = x) = true) with z | z
    · exact z
    · have := tbF_fresh (un := uc) (us := 2 ^ n - 1) (u := x) (n := n) (fun j hj y => z ⟨j, hj, decide_eq_true (by rw [h j hj]; exact y)⟩)
      rw [this] at hb
      cases hb
  · rintro ⟨m, hm, hd⟩
    have e := of_decide_eq_true hd
    rw [← e, h m hm]
    exact tb_in hm (by rw [Nat.testBit_two_pow_sub_one, decide_eq_true hm])
set_option maxRecDepth 100000 in
set_option maxHeartbeats 4000000 in
theorem c_X8_readUnsureL (l : Launch) (E : Et) (k : Nat) (th : Nat) (tr : Nat) (wh : Int32) (g : Option Nat) (q : Nat → Nat) (z : Nat → Nat) (nb : Int32) (wa : Int32) (wd : Int64) (ev : Nat) (al : Int32) (wl : Int64) (sz : Nat) (sp : Nat) (so : Nat) (pl : Nat) (tp : Nat → Int32) (tk : Tk) (kwd : Nat → Int64) (gr7 : Nat) (cy : Nat → Nat) (bl : Int32) (kp : Nat) (nc : Nat) (cb : Nat → Nat) (na : Nat → Int64) (ns : Nat → Nat) (nu : Nat → Nat) (nm : Rnm) (un : Nat → Nat) (uc : Nat → Nat) (hkw : ∀ s, s < 6 → kwd s = lN (pkS 27 s)) (hT8 : T8 tk so pl sp wd nb) (htO : tkO sz tk) (hso : so ≤ 4) (hsz : sz ≤ 900) (hby : byT tp) (hNR : NR nm nc na ns nu) (hnc : nc ≤ 18) (hns : ∀ i, i < nc → ns i ≤ 4) (hs0 : ¬ so = 0) (hnu : ∀ i, i < nc → nu i < 8) (hc6 : cy 6 ≤ 5) (hun : ∀ j, j < cy 6 → un j < 8) (hue : ∀ j, j < cy 6 → un j = uc j) : Ct l E yX8_readUnsure cX8_readUnsure 2 none 8 0 0 [.ref k] [ob k 8 [.int (nI th), .int (nI tr), .int wh, va_rf g, .ref gr7, .ref (q 5), .int (nI (z 6)), .int (nI sz), .int (nI sp), .int (nI so), .int (nI pl), .int nb, .int (nI (z 12)), .int wa, .long wd, .ref (q 15), .ref (q 16), .ref (q 17), .ref (q 18), .int (nI (z 19)), .int (nI (z 20)), .ref (q 21), .long (lN ev), .ref (q 23), .ref (q 24), .int (nI (z 25)), .ref (q 26), .int al, .long wl, .int (nI (z 29))], aB E (q 5) 900 tp, ob gr7 7 [.int bl, .int (nI (cy 1)), .int (nI (cy 2)), .int (nI (cy 3)), .int (nI (cy 4)), .int (nI (cy 5)), .int (nI (cy 6)), .int (nI (cy 7)), .int (nI kp), .int (nI nc), .ref (cb 0), .ref (cb 1), .ref (cb 2), .ref (cb 3), .ref (cb 4), .ref (cb 5), .ref (cb 6), .ref (cb 7), .ref (cb 8), .ref (cb 9), .ref (cb 10), .ref (cb 11)], aL E (cb 9) 18 na, aN E (cb 10) 18 ns, aN E (cb 11) 18 nu, aN E (cb 5) 5 un] ((fun r w => (∃ (x : Nat) (tk1 : Tk) (so1 : Nat) (pl1 : Nat) (sp1 : Nat) (wd1 : Int64) (nb1 : Int32), (¬ cy 6 = 5) ∧ (¬ bl = -1) ∧ (pnS tp sz kwd 3 (tbF uc (2 ^ cy 6 - 1) (cy 6)) nm (advK tp sz tk) = .inr (x, tk1)) ∧ (T8 tk1 so1 pl1 sp1 wd1 nb1) ∧ (tkO sz tk1) ∧ (so1 ≤ 4) ∧ w = [ob k 8 [.int (nI th), .int (nI tr), .int wh, va_rf g, .ref gr7, .ref (q 5), .int (nI (z 6)), .int (nI sz), .int (nI sp1), .int (nI so1), .int (nI pl1), .int nb1, .int (nI (z 12)), .int wa, .long wd1, .ref (q 15), .ref (q 16), .ref (q 17), .ref (q 18), .int (nI (z 19)), .int (nI (z 20)), .ref (q 21), .long (lN ev), .ref (q 23), .ref (q 24), .int (nI (z 25)), .ref (q 26), .int al, .long wl, .int (nI (z 29))], aB E (q 5) 900 tp, ob gr7 7 [.int bl, .int (nI (cy 1)), .int (nI (cy 2)), .int (nI (cy 3)), .int (nI (cy 4)), .int (nI (cy 5)), .int (nI (cy 6 + 1)), .int (nI (cy 7)), .int (nI kp), .int (nI nc), .ref (cb 0), .ref (cb 1), .ref (cb 2), .ref (cb 3), .ref (cb 4), .ref (cb 5), .ref (cb 6), .ref (cb 7), .ref (cb 8), .ref (cb 9), .ref (cb 10), .ref (cb 11)], aL E (cb 9) 18 na, aN E (cb 10) 18 ns, aN E (cb 11) 18 nu, aN E (cb 5) 5 (upN un (cy 6) x)] ∧ r = none) ∨ (∃ (f : Nat) (p : Nat) (pl1 : Nat) (sp1 : Nat) (wd1 : Int64) (nb1 : Int32), ((cy 6 = 5 ∧ f = 5 ∧ p = tk.2.1) ∨ (¬ cy 6 = 5 ∧ bl = -1 ∧ f = 6 ∧ p = tk.2.1) ∨ (¬ cy 6 = 5 ∧ ¬ bl = -1 ∧ pnS tp sz kwd 3 (tbF uc (2 ^ cy 6 - 1) (cy 6)) nm (advK tp sz tk) = .inl (f, p))) ∧ w = [ob k 8 [.int (nI th), .int (nI tr), .int wh, va_rf g, .ref gr7, .ref (q 5), .int (nI (z 6)), .int (nI sz), .int (nI sp1), .int (nI 5), .int (nI pl1), .int nb1, .int (nI f), .int (nI p), .long wd1, .ref (q 15), .ref (q 16), .ref (q 17), .ref (q 18), .int (nI (z 19)), .int (nI (z 20)), .ref (q 21), .long (lN ev), .ref (q 23), .ref (q 24), .int (nI (z 25)), .ref (q 26), .int al, .long wl, .int (nI (z 29))], aB E (q 5) 900 tp, ob gr7 7 [.int bl, .int (nI (cy 1)), .int (nI (cy 2)), .int (nI (cy 3)), .int (nI (cy 4)), .int (nI (cy 5)), .int (nI (cy 6)), .int (nI (cy 7)), .int (nI kp), .int (nI nc), .ref (cb 0), .ref (cb 1), .ref (cb 2), .ref (cb 3), .ref (cb 4), .ref (cb 5), .ref (cb 6), .ref (cb 7), .ref (cb 8), .ref (cb 9), .ref (cb 10), .ref (cb 11)], aL E (cb 9) 18 na, aN E (cb 10) 18 ns, aN E (cb 11) 18 nu, aN E (cb 5) 5 un] ∧ r = none))) := by
  refine Ct.intro (by decide +kernel) (Nat.le_of_ble_eq_true rfl) (lv := [(0, .ref k)]) rfl ?_
  intro Z X Y
  refine v_aload_n X dX8_readUnsure_0 rfl 0 rfl ?_
  refine v_aload_n X dX8_readUnsure_1 rfl 0 rfl ?_
  refine v_get X kcX8 fl_X8_142 dX8_readUnsure_2 0 rfl rfl ?_
  refine v_getN X kcX7 fl_X8_266 dX8_readUnsure_5 2 rfl rfl ?_
  refine v_iconst X dX8_readUnsure_8 (v := nI 5) (by decide) ?_
  refine v_wr X (rn_V X k_X8_lineBegins ml_X8_217 dX8_readUnsure_9 (c_X8_lineBeginsL l E k th tr wh g q z nb wa wd ev al wl sz sp so pl tp tk gr7 cy bl kp nc cb (cy 6) 5 (by first | assumption | omega) (by first | assumption | omega) (by first | assumption | omega) (by first | assumption | omega) (by first | assumption | omega) (by first | assumption | omega) (by omega) (by decide)) rfl 0 rfl rfl (by decide) (by decide) (by omega) (by omega) (Nat.le_of_ble_eq_true rfl)) [0, 1, 2] rfl rfl (fun r w1 hpo => ?_)
  rcases hpo with ⟨tk1_9, so1_9, pl1_9, sp1_9, wd1_9, nb1_9, h1_9, h2_9, hA_9, hT_9, hU_9, hS_9, rfl, rfl⟩ | ⟨h1_9, rfl, rfl⟩ | ⟨h1_9, h2_9, rfl, rfl⟩
  · refine ⟨rfl, ?_⟩
    refine V.cast (st' := []) (ws' := [ob k 8 [.int (nI th), .int (nI tr), .int wh, va_rf g, .ref gr7, .ref (q 5), .int (nI (z 6)), .int (nI sz), .int (nI sp1_9), .int (nI so1_9), .int (nI pl1_9), .int nb1_9, .int (nI (z 12)), .int wa, .long wd1_9, .ref (q 15), .ref (q 16), .ref (q 17), .ref (q 18), .int (nI (z 19)), .int (nI (z 20)), .ref (q 21), .long (lN ev), .ref (q 23), .ref (q 24), .int (nI (z 25)), .ref (q 26), .int al, .long wl, .int (nI (z 29))], aB E (q 5) 900 tp, ob gr7 7 [.int bl, .int (nI (cy 1)), .int (nI (cy 2)), .int (nI (cy 3)), .int (nI (cy 4)), .int (nI (cy 5)), .int (nI (cy 6)), .int (nI (cy 7)), .int (nI kp), .int (nI nc), .ref (cb 0), .ref (cb 1), .ref (cb 2), .ref (cb 3), .ref (cb 4), .ref (cb 5), .ref (cb 6), .ref (cb 7), .ref (cb 8), .ref (cb 9), .ref (cb 10), .ref (cb 11)], aL E (cb 9) 18 na, aN E (cb 10) 18 ns, aN E (cb 11) 18 nu, aN E (cb 5) 5 un]) rfl rfl rfl ?_
    refine v_aload_n X dX8_readUnsure_12 rfl 0 rfl ?_
    refine v_iconst X dX8_readUnsure_13 (v := nI 2) (by decide) ?_
    refine v_wr X (rn_V X k_X8_knownOne ml_X8_171 dX8_readUnsure_14 (c_X8_knownOneL l E k th tr wh g q z nb1_9 wa wd1_9 ev al wl sz sp1_9 so1_9 pl1_9 tp tk1_9 kwd gr7 cy bl kp nc cb na ns nu nm 2 (by first | assumption | omega) (hT_9) (hS_9) (by first | assumption | omega) (by first | assumption | omega) (by first | assumption | omega) (by decide)) rfl 0 rfl rfl (by decide) (by decide) (by omega) (by omega) (Nat.le_of_ble_eq_true rfl)) [0, 2, 3, 4, 5] rfl rfl (fun r w1 hpo => ?_)
    rcases hpo with ⟨x_14, hW_14, rfl, rfl⟩ | ⟨f_14, p_14, hW_14, rfl, rfl⟩
    · refine ⟨rfl, ?_⟩
      refine V.cast (st' := [.int (nI x_14)]) (ws' := [ob k 8 [.int (nI th), .int (nI tr), .int wh, va_rf g, .ref gr7, .ref (q 5), .int (nI (z 6)), .int (nI sz), .int (nI sp1_9), .int (nI so1_9), .int (nI pl1_9), .int nb1_9, .int (nI (z 12)), .int wa, .long wd1_9, .ref (q 15), .ref (q 16), .ref (q 17), .ref (q 18), .int (nI (z 19)), .int (nI (z 20)), .ref (q 21), .long (lN ev), .ref (q 23), .ref (q 24), .int (nI (z 25)), .ref (q 26), .int al, .long wl, .int (nI (z 29))], aB E (q 5) 900 tp, ob gr7 7 [.int bl, .int (nI (cy 1)), .int (nI (cy 2)), .int (nI (cy 3)), .int (nI (cy 4)), .int (nI (cy 5)), .int (nI (cy 6)), .int (nI (cy 7)), .int (nI kp), .int (nI nc), .ref (cb 0), .ref (cb 1), .ref (cb 2), .ref (cb 3), .ref (cb 4), .ref (cb 5), .ref (cb 6), .ref (cb 7), .ref (cb 8), .ref (cb 9), .ref (cb 10), .ref (cb 11)], aL E (cb 9) 18 na, aN E (cb 10) 18 ns, aN E (cb 11) 18 nu, aN E (cb 5) 5 un]) rfl rfl rfl ?_
      have hx8 : x_14 < 8 := kn_lt hNR hnu hW_14
      have hspe : sp1_9 = tk1_9.2.2.1 := t8_sp hT_9 (kn_so hT_9 hW_14)
      refine v_istore_n X dX8_readUnsure_17 rfl (by decide) (lv' := [(1, .int (nI x_14)), (0, .ref k)]) rfl ?_
      refine v_aload_n X dX8_readUnsure_18 rfl 1 rfl ?_
      refine v_get X kcX8 fl_X8_75 dX8_readUnsure_19 0 rfl rfl ?_
      refine v_iconst X dX8_readUnsure_22 (v := nI 5) (by decide) ?_
      refine v_icmpN_eq X dX8_readUnsure_23 (tgt := 42) (by decide) (by omega) (by decide) (fun h23 => ?_) (fun h23 => ?_)
      · exfalso; omega
      · refine v_aload_n X dX8_readUnsure_26 rfl 1 rfl ?_
        refine v_get X kcX8 fl_X8_142 dX8_readUnsure_27 0 rfl rfl ?_
        refine v_iload_n X dX8_readUnsure_30 rfl 0 rfl ?_
        refine v_roI1 X (rn_V X k_X7_isUnsure ml_X8_269 dX8_readUnsure_31 (c_X7_isUnsure l E gr7 cy bl kp nc cb un x_14 (hc6) (by first | assumption | omega) (hx8)) rfl 0 rfl rfl (by decide) (by decide) (by omega) (by omega) (Nat.le_of_ble_eq_true rfl)) [2, 6] rfl rfl ?_
        refine v_ifB_eq X dX8_readUnsure_34 (tgt := 42) (by decide) (fun h34 => ?_) (fun h34 => ?_)
        · refine v_aload_n X dX8_readUnsure_42 rfl 1 rfl ?_
          refine v_wr X (rn_V X k_X8_goesOn ml_X8_111 dX8_readUnsure_43 (c_X8_goesOnL l E k th tr wh g (some gr7) q z nb1_9 wa wd1_9 ev al wl sz sp1_9 so1_9 pl1_9 tp tk1_9.2.2.2 (hS_9) (by first | assumption | omega) (by rw [hspe]; exact hU_9.2.2.1) (by first | assumption | omega)) rfl 0 rfl rfl (by decide) (by decide) (by omega) (by omega) (Nat.le_of_ble_eq_true rfl)) [0, 1] rfl rfl (fun r w1 hpo => ?_)
          rcases hpo with ⟨so1_43, pl1_43, sp1_43, wd1_43, nb1_43, hT8_43, hs1_43, hs4_43, rfl, rfl⟩
          · refine ⟨rfl, ?_⟩
            refine V.cast (st' := []) (ws' := [ob k 8 [.int (nI th), .int (nI tr), .int wh, va_rf g, .ref gr7, .ref (q 5), .int (nI (z 6)), .int (nI sz), .int (nI sp1_43), .int (nI so1_43), .int (nI pl1_43), .int nb1_43, .int (nI (z 12)), .int wa, .long wd1_43, .ref (q 15), .ref (q 16), .ref (q 17), .ref (q 18), .int (nI (z 19)), .int (nI (z 20)), .ref (q 21), .long (lN ev), .ref (q 23), .ref (q 24), .int (nI (z 25)), .ref (q 26), .int al, .long wl, .int (nI (z 29))], aB E (q 5) 900 tp, ob gr7 7 [.int bl, .int (nI (cy 1)), .int (nI (cy 2)), .int (nI (cy 3)), .int (nI (cy 4)), .int (nI (cy 5)), .int (nI (cy 6)), .int (nI (cy 7)), .int (nI kp), .int (nI nc), .ref (cb 0), .ref (cb 1), .ref (cb 2), .ref (cb 3), .ref (cb 4), .ref (cb 5), .ref (cb 6), .ref (cb 7), .ref (cb 8), .ref (cb 9), .ref (cb 10), .ref (cb 11)], aL E (cb 9) 18 na, aN E (cb 10) 18 ns, aN E (cb 11) 18 nu, aN E (cb 5) 5 un]) rfl rfl rfl ?_
            refine v_aload_n X dX8_readUnsure_46 rfl 1 rfl ?_
            refine v_get X kcX8 fl_X8_75 dX8_readUnsure_47 0 rfl rfl ?_
            refine v_iconst X dX8_readUnsure_50 (v := nI 5) (by decide) ?_
            refine v_icmpN_ne X dX8_readUnsure_51 (tgt := 55) (by decide) (by omega) (by decide) (fun h51 => ?_) (fun h51 => ?_)
            · refine v_aload_n X dX8_readUnsure_55 rfl 1 rfl ?_
              refine v_get X kcX8 fl_X8_142 dX8_readUnsure_56 0 rfl rfl ?_
              refine v_getN X kcX7 fl_X8_272 dX8_readUnsure_59 2 rfl rfl ?_
              refine v_aload_n X dX8_readUnsure_62 rfl 1 rfl ?_
              refine v_get X kcX8 fl_X8_142 dX8_readUnsure_63 0 rfl rfl ?_
              refine v_getN X kcX7 fl_X8_266 dX8_readUnsure_66 2 rfl rfl ?_
              refine v_iload_n X dX8_readUnsure_69 rfl 0 rfl ?_
              refine v_iast X dX8_readUnsure_70 6 rfl (by omega) (by decide) (ws' := [ob k 8 [.int (nI th), .int (nI tr), .int wh, va_rf g, .ref gr7, .ref (q 5), .int (nI (z 6)), .int (nI sz), .int (nI sp1_43), .int (nI so1_43), .int (nI pl1_43), .int nb1_43, .int (nI (z 12)), .int wa, .long wd1_43, .ref (q 15), .ref (q 16), .ref (q 17), .ref (q 18), .int (nI (z 19)), .int (nI (z 20)), .ref (q 21), .long (lN ev), .ref (q 23), .ref (q 24), .int (nI (z 25)), .ref (q 26), .int al, .long wl, .int (nI (z 29))], aB E (q 5) 900 tp, ob gr7 7 [.int bl, .int (nI (cy 1)), .int (nI (cy 2)), .int (nI (cy 3)), .int (nI (cy 4)), .int (nI (cy 5)), .int (nI (cy 6)), .int (nI (cy 7)), .int (nI kp), .int (nI nc), .ref (cb 0), .ref (cb 1), .ref (cb 2), .ref (cb 3), .ref (cb 4), .ref (cb 5), .ref (cb 6), .ref (cb 7), .ref (cb 8), .ref (cb 9), .ref (cb 10), .ref (cb 11)], aL E (cb 9) 18 na, aN E (cb 10) 18 ns, aN E (cb 11) 18 nu, aN E (cb 5) 5 (upN un (cy 6) x_14)]) (by rw [upd_nI]; rfl) ?_
              refine v_aload_n X dX8_readUnsure_71 rfl 1 rfl ?_
              refine v_get X kcX8 fl_X8_142 dX8_readUnsure_72 0 rfl rfl ?_
              refine v_dup X dX8_readUnsure_75 rfl ?_
              refine v_getN X kcX7 fl_X8_266 dX8_readUnsure_76 2 rfl rfl ?_
              refine v_iconst X dX8_readUnsure_79 (v := nI 1) (by decide) ?_
              refine v_iadd X dX8_readUnsure_80 ?_
              refine v_eqi (x' := nI ((cy 6) + 1)) (nI_add _ _) ?_
              refine v_putN X kcX7 fl_X8_266 dX8_readUnsure_81 2 rfl (ws' := [ob k 8 [.int (nI th), .int (nI tr), .int wh, va_rf g, .ref gr7, .ref (q 5), .int (nI (z 6)), .int (nI sz), .int (nI sp1_43), .int (nI so1_43), .int (nI pl1_43), .int nb1_43, .int (nI (z 12)), .int wa, .long wd1_43, .ref (q 15), .ref (q 16), .ref (q 17), .ref (q 18), .int (nI (z 19)), .int (nI (z 20)), .ref (q 21), .long (lN ev), .ref (q 23), .ref (q 24), .int (nI (z 25)), .ref (q 26), .int al, .long wl, .int (nI (z 29))], aB E (q 5) 900 tp, ob gr7 7 [.int bl, .int (nI (cy 1)), .int (nI (cy 2)), .int (nI (cy 3)), .int (nI (cy 4)), .int (nI (cy 5)), .int (nI ((cy 6) + 1)), .int (nI (cy 7)), .int (nI kp), .int (nI nc), .ref (cb 0), .ref (cb 1), .ref (cb 2), .ref (cb 3), .ref (cb 4), .ref (cb 5), .ref (cb 6), .ref (cb 7), .ref (cb 8), .ref (cb 9), .ref (cb 10), .ref (cb 11)], aL E (cb 9) 18 na, aN E (cb 10) 18 ns, aN E (cb 11) 18 nu, aN E (cb 5) 5 (upN un (cy 6) x_14)]) rfl rfl ?_
              exact v_vret X Y dX8_readUnsure_84 (Or.inl ⟨x_14, (advK tp sz tk1_9), so1_43, pl1_43, sp1_43, wd1_43, nb1_43, (h1_9), (h2_9), (by rw [hA_9, pn_kn, hW_14, sb_k]; exact if_neg (by rw [tb_us hue, h34]; decide)), (by have h9 := hT8_43; rw [hspe] at h9; exact h9), ((advK_ok hU_9).1), (hs4_43), rfl, rfl⟩) (by omega) (by omega)
            · exfalso; omega
        · refine v_aload_n X dX8_readUnsure_37 rfl 1 rfl ?_
          refine v_iconst X dX8_readUnsure_38 (v := nI 3) (by decide) ?_
          refine v_wrV1 X (rn_V X k_X8_flaw ml_X8_118 dX8_readUnsure_39 (c_X8_flaw l E k th tr wh g (some gr7) q (upN (upN z 7 sz) 8 sp1_9) nb1_9 wa wd1_9 ev al wl so1_9 pl1_9 3 (by omega)) rfl 0 rfl rfl (by decide) (by decide) (by omega) (by omega) (Nat.le_of_ble_eq_true rfl)) [0] rfl rfl (ws' := [ob k 8 [.int (nI th), .int (nI tr), .int wh, va_rf g, .ref gr7, .ref (q 5), .int (nI (z 6)), .int (nI sz), .int (nI sp1_9), .int (nI 5), .int (nI pl1_9), .int nb1_9, .int (nI 3), .int (nI pl1_9), .long wd1_9, .ref (q 15), .ref (q 16), .ref (q 17), .ref (q 18), .int (nI (z 19)), .int (nI (z 20)), .ref (q 21), .long (lN ev), .ref (q 23), .ref (q 24), .int (nI (z 25)), .ref (q 26), .int al, .long wl, .int (nI (z 29))], aB E (q 5) 900 tp, ob gr7 7 [.int bl, .int (nI (cy 1)), .int (nI (cy 2)), .int (nI (cy 3)), .int (nI (cy 4)), .int (nI (cy 5)), .int (nI (cy 6)), .int (nI (cy 7)), .int (nI kp), .int (nI nc), .ref (cb 0), .ref (cb 1), .ref (cb 2), .ref (cb 3), .ref (cb 4), .ref (cb 5), .ref (cb 6), .ref (cb 7), .ref (cb 8), .ref (cb 9), .ref (cb 10), .ref (cb 11)], aL E (cb 9) 18 na, aN E (cb 10) 18 ns, aN E (cb 11) 18 nu, aN E (cb 5) 5 un]) rfl rfl ?_
          refine v_aload_n X dX8_readUnsure_42 rfl 1 rfl ?_
          refine v_roV1 X (rn_V X k_X8_goesOn ml_X8_111 dX8_readUnsure_43 (c_X8_goesOn_o l E k th tr wh g (some gr7) q (upN (upN (upN (upN z 7 sz) 8 sp1_9) 10 pl1_9) 12 3) nb1_9 (nI pl1_9) wd1_9 ev al wl ) rfl 0 rfl rfl (by decide) (by decide) (by omega) (by omega) (Nat.le_of_ble_eq_true rfl)) [0] rfl rfl ?_
          refine v_aload_n X dX8_readUnsure_46 rfl 1 rfl ?_
          refine v_get X kcX8 fl_X8_75 dX8_readUnsure_47 0 rfl rfl ?_
          refine v_iconst X dX8_readUnsure_50 (v := nI 5) (by decide) ?_
          refine v_icmpN_ne X dX8_readUnsure_51 (tgt := 55) (by decide) (by decide) (by decide) (fun h51 => ?_) (fun h51 => ?_)
          · exfalso; omega
          · exact v_vret X Y dX8_readUnsure_54 (Or.inr ⟨3, pl1_9, pl1_9, sp1_9, wd1_9, nb1_9, (Or.inr (Or.inr ⟨h1_9, h2_9, by rw [hA_9, pn_kn, hW_14, sb_k, show pl1_9 = tk1_9.2.1 from hT_9.1]; exact if_pos (by rw [tb_us hue]; exact h34)⟩)), rfl, rfl⟩) (by omega) (by omega)
    · refine ⟨rfl, ?_⟩
      refine V.cast (st' := [.int (nI 0)]) (ws' := [ob k 8 [.int (nI th), .int (nI tr), .int wh, va_rf g, .ref gr7, .ref (q 5), .int (nI (z 6)), .int (nI sz), .int (nI sp1_9), .int (nI 5), .int (nI pl1_9), .int nb1_9, .int (nI f_14), .int (nI p_14), .long wd1_9, .ref (q 15), .ref (q 16), .ref (q 17), .ref (q 18), .int (nI (z 19)), .int (nI (z 20)), .ref (q 21), .long (lN ev), .ref (q 23), .ref (q 24), .int (nI (z 25)), .ref (q 26), .int al, .long wl, .int (nI (z 29))], aB E (q 5) 900 tp, ob gr7 7 [.int bl, .int (nI (cy 1)), .int (nI (cy 2)), .int (nI (cy 3)), .int (nI (cy 4)), .int (nI (cy 5)), .int (nI (cy 6)), .int (nI (cy 7)), .int (nI kp), .int (nI nc), .ref (cb 0), .ref (cb 1), .ref (cb 2), .ref (cb 3), .ref (cb 4), .ref (cb 5), .ref (cb 6), .ref (cb 7), .ref (cb 8), .ref (cb 9), .ref (cb 10), .ref (cb 11)], aL E (cb 9) 18 na, aN E (cb 10) 18 ns, aN E (cb 11) 18 nu, aN E (cb 5) 5 un]) rfl rfl rfl ?_
      refine v_istore_n X dX8_readUnsure_17 rfl (by decide) (lv' := [(1, .int (nI 0)), (0, .ref k)]) rfl ?_
      refine v_aload_n X dX8_readUnsure_18 rfl 1 rfl ?_
      refine v_get X kcX8 fl_X8_75 dX8_readUnsure_19 0 rfl rfl ?_
      refine v_iconst X dX8_readUnsure_22 (v := nI 5) (by decide) ?_
      refine v_icmpN_eq X dX8_readUnsure_23 (tgt := 42) (by decide) (by decide) (by decide) (fun h23 => ?_) (fun h23 => ?_)
      · refine v_aload_n X dX8_readUnsure_42 rfl 1 rfl ?_
        refine v_roV1 X (rn_V X k_X8_goesOn ml_X8_111 dX8_readUnsure_43 (c_X8_goesOn_o l E k th tr wh g (some gr7) q (upN (upN (upN (upN z 7 sz) 8 sp1_9) 10 pl1_9) 12 f_14) nb1_9 (nI p_14) wd1_9 ev al wl ) rfl 0 rfl rfl (by decide) (by decide) (by omega) (by omega) (Nat.le_of_ble_eq_true rfl)) [0] rfl rfl ?_
        refine v_aload_n X dX8_readUnsure_46 rfl 1 rfl ?_
        refine v_get X kcX8 fl_X8_75 dX8_readUnsure_47 0 rfl rfl ?_
        refine v_iconst X dX8_readUnsure_50 (v := nI 5) (by decide) ?_
        refine v_icmpN_ne X dX8_readUnsure_51 (tgt := 55) (by decide) (by decide) (by decide) (fun h51 => ?_) (fun h51 => ?_)
        · exfalso; omega
        · exact v_vret X Y dX8_readUnsure_54 (Or.inr ⟨f_14, p_14, pl1_9, sp1_9, wd1_9, nb1_9, (Or.inr (Or.inr ⟨h1_9, h2_9, by rw [hA_9, pn_kn, hW_14, sb_e]⟩)), rfl, rfl⟩) (by omega) (by omega)
      · exfalso; omega
  · refine ⟨rfl, ?_⟩
    refine V.cast (st' := []) (ws' := [ob k 8 [.int (nI th), .int (nI tr), .int wh, va_rf g, .ref gr7, .ref (q 5), .int (nI (z 6)), .int (nI sz), .int (nI sp), .int (nI 5), .int (nI pl), .int nb, .int (nI 5), .int (nI pl), .long wd, .ref (q 15), .ref (q 16), .ref (q 17), .ref (q 18), .int (nI (z 19)), .int (nI (z 20)), .ref (q 21), .long (lN ev), .ref (q 23), .ref (q 24), .int (nI (z 25)), .ref (q 26), .int al, .long wl, .int (nI (z 29))], aB E (q 5) 900 tp, ob gr7 7 [.int bl, .int (nI (cy 1)), .int (nI (cy 2)), .int (nI (cy 3)), .int (nI (cy 4)), .int (nI (cy 5)), .int (nI (cy 6)), .int (nI (cy 7)), .int (nI kp), .int (nI nc), .ref (cb 0), .ref (cb 1), .ref (cb 2), .ref (cb 3), .ref (cb 4), .ref (cb 5), .ref (cb 6), .ref (cb 7), .ref (cb 8), .ref (cb 9), .ref (cb 10), .ref (cb 11)], aL E (cb 9) 18 na, aN E (cb 10) 18 ns, aN E (cb 11) 18 nu, aN E (cb 5) 5 un]) rfl rfl rfl ?_
    refine v_aload_n X dX8_readUnsure_12 rfl 0 rfl ?_
    refine v_iconst X dX8_readUnsure_13 (v := nI 2) (by decide) ?_
    refine v_roI1 X (rn_V X k_X8_knownOne ml_X8_171 dX8_readUnsure_14 (c_X8_knownOne_o l E k th tr wh g q (upN (upN (upN (upN z 7 sz) 8 sp) 10 pl) 12 5) nb (nI pl) wd ev al wl gr7 cy bl kp nc cb na ns nu 2 (by first | assumption | omega) (by first | assumption | omega) (by decide)) rfl 0 rfl rfl (by decide) (by decide) (by omega) (by omega) (Nat.le_of_ble_eq_true rfl)) [0, 2, 3, 4, 5] rfl rfl ?_
    refine v_istore_n X dX8_readUnsure_17 rfl (by decide) (lv' := [(1, .int (nI 0)), (0, .ref k)]) rfl ?_
    refine v_aload_n X dX8_readUnsure_18 rfl 1 rfl ?_
    refine v_get X kcX8 fl_X8_75 dX8_readUnsure_19 0 rfl rfl ?_
    refine v_iconst X dX8_readUnsure_22 (v := nI 5) (by decide) ?_
    refine v_icmpN_eq X dX8_readUnsure_23 (tgt := 42) (by decide) (by decide) (by decide) (fun h23 => ?_) (fun h23 => ?_)
    · refine v_aload_n X dX8_readUnsure_42 rfl 1 rfl ?_
      refine v_roV1 X (rn_V X k_X8_goesOn ml_X8_111 dX8_readUnsure_43 (c_X8_goesOn_o l E k th tr wh g (some gr7) q (upN (upN (upN (upN z 7 sz) 8 sp) 10 pl) 12 5) nb (nI pl) wd ev al wl ) rfl 0 rfl rfl (by decide) (by decide) (by omega) (by omega) (Nat.le_of_ble_eq_true rfl)) [0] rfl rfl ?_
      refine v_aload_n X dX8_readUnsure_46 rfl 1 rfl ?_
      refine v_get X kcX8 fl_X8_75 dX8_readUnsure_47 0 rfl rfl ?_
      refine v_iconst X dX8_readUnsure_50 (v := nI 5) (by decide) ?_
      refine v_icmpN_ne X dX8_readUnsure_51 (tgt := 55) (by decide) (by decide) (by decide) (fun h51 => ?_) (fun h51 => ?_)
      · exfalso; omega
      · exact v_vret X Y dX8_readUnsure_54 (Or.inr ⟨5, pl, pl, sp, wd, nb, (Or.inl ⟨h1_9, rfl, hT8.1⟩), rfl, rfl⟩) (by omega) (by omega)
    · exfalso; omega
  · refine ⟨rfl, ?_⟩
    refine V.cast (st' := []) (ws' := [ob k 8 [.int (nI th), .int (nI tr), .int wh, va_rf g, .ref gr7, .ref (q 5), .int (nI (z 6)), .int (nI sz), .int (nI sp), .int (nI 5), .int (nI pl), .int nb, .int (nI 6), .int (nI pl), .long wd, .ref (q 15), .ref (q 16), .ref (q 17), .ref (q 18), .int (nI (z 19)), .int (nI (z 20)), .ref (q 21), .long (lN ev), .ref (q 23), .ref (q 24), .int (nI (z 25)), .ref (q 26), .int al, .long wl, .int (nI (z 29))], aB E (q 5) 900 tp, ob gr7 7 [.int bl, .int (nI (cy 1)), .int (nI (cy 2)), .int (nI (cy 3)), .int (nI (cy 4)), .int (nI (cy 5)), .int (nI (cy 6)), .int (nI (cy 7)), .int (nI kp), .int (nI nc), .ref (cb 0), .ref (cb 1), .ref (cb 2), .ref (cb 3), .ref (cb 4), .ref (cb 5), .ref (cb 6), .ref (cb 7), .ref (cb 8), .ref (cb 9), .ref (cb 10), .ref (cb 11)], aL E (cb 9) 18 na, aN E (cb 10) 18 ns, aN E (cb 11) 18 nu, aN E (cb 5) 5 un]) rfl rfl rfl ?_
    refine v_aload_n X dX8_readUnsure_12 rfl 0 rfl ?_
    refine v_iconst X dX8_readUnsure_13 (v := nI 2) (by decide) ?_
    refine v_roI1 X (rn_V X k_X8_knownOne ml_X8_171 dX8_readUnsure_14 (c_X8_knownOne_o l E k th tr wh g q (upN (upN (upN (upN z 7 sz) 8 sp) 10 pl) 12 6) nb (nI pl) wd ev al wl gr7 cy bl kp nc cb na ns nu 2 (by first | assumption | omega) (by first | assumption | omega) (by decide)) rfl 0 rfl rfl (by decide) (by decide) (by omega) (by omega) (Nat.le_of_ble_eq_true rfl)) [0, 2, 3, 4, 5] rfl rfl ?_
    refine v_istore_n X dX8_readUnsure_17 rfl (by decide) (lv' := [(1, .int (nI 0)), (0, .ref k)]) rfl ?_
    refine v_aload_n X dX8_readUnsure_18 rfl 1 rfl ?_
    refine v_get X kcX8 fl_X8_75 dX8_readUnsure_19 0 rfl rfl ?_
    refine v_iconst X dX8_readUnsure_22 (v := nI 5) (by decide) ?_
    refine v_icmpN_eq X dX8_readUnsure_23 (tgt := 42) (by decide) (by decide) (by decide) (fun h23 => ?_) (fun h23 => ?_)
    · refine v_aload_n X dX8_readUnsure_42 rfl 1 rfl ?_
      refine v_roV1 X (rn_V X k_X8_goesOn ml_X8_111 dX8_readUnsure_43 (c_X8_goesOn_o l E k th tr wh g (some gr7) q (upN (upN (upN (upN z 7 sz) 8 sp) 10 pl) 12 6) nb (nI pl) wd ev al wl ) rfl 0 rfl rfl (by decide) (by decide) (by omega) (by omega) (Nat.le_of_ble_eq_true rfl)) [0] rfl rfl ?_
      refine v_aload_n X dX8_readUnsure_46 rfl 1 rfl ?_
      refine v_get X kcX8 fl_X8_75 dX8_readUnsure_47 0 rfl rfl ?_
      refine v_iconst X dX8_readUnsure_50 (v := nI 5) (by decide) ?_
      refine v_icmpN_ne X dX8_readUnsure_51 (tgt := 55) (by decide) (by decide) (by decide) (fun h51 => ?_) (fun h51 => ?_)
      · exfalso; omega
      · exact v_vret X Y dX8_readUnsure_54 (Or.inr ⟨6, pl, pl, sp, wd, nb, (Or.inr (Or.inl ⟨h1_9, h2_9, rfl, hT8.1⟩)), rfl, rfl⟩) (by omega) (by omega)
    · exfalso; omega
