theorem wh_ok {tp : Nat → Int32} {en lo hi : Nat} {k : Tk} (h : k.1 = 2) (h2 : lo ≤ vlN k.2.2.2 ∧ vlN k.2.2.2 ≤ hi) : whS tp en lo hi k = .inr (vlN k.2.2.2, advK tp en k) := (if_pos h).trans (if_pos h2)
theorem wh_4 {tp : Nat → Int32} {en lo hi : Nat} {k : Tk} (h : k.1 = 2) (h2 : ¬ (lo ≤ vlN k.2.2.2 ∧ vlN k.2.2.2 ≤ hi)) : whS tp en lo hi k = .inl (4, k.2.1) := (if_pos h).trans (if_neg h2)
theorem wh_1 {tp : Nat → Int32} {en lo hi : Nat} {k : Tk} (h : ¬ k.1 = 2) : whS tp en lo hi k = .inl (1, k.2.1) := if_neg h
theorem in_vl {k : Tk} {so pl sp lo hi : Nat} {wd : Int64} {nb : Int32} (h : T8 k so pl sp wd nb) (hs : so = 3) (hl : lo < 2 ^ 31) (hh : hi < 2 ^ 31) : (nI lo ≤ nb ∧ nb ≤ nI hi) ↔ (lo ≤ vlN k.2.2.2 ∧ vlN k.2.2.2 ≤ hi) := by
  have h1 := (t8_3 h).2 hs
  rw [h1.2, nI_leI hl (by omega), nI_leI (by omega) hh]
set_option maxRecDepth 100000 in
set_option maxHeartbeats 4000000 in
theorem c_X8_readPart_o (l : Launch) (E : Et) (k : Nat) (th : Nat) (tr : Nat) (wh : Int32) (g : Option Nat) (rr : Option Nat) (q : Nat → Nat) (z : Nat → Nat) (nb : Int32) (wa : Int32) (wd : Int64) (ev : Nat) (al : Int32) (wl : Int64) (i : Nat) (lo : Nat) (hj : Nat) (hi : i < 20) : Ct l E yX8_readPart cX8_readPart 5 (some .int) 7 0 0 [.ref k, .ref (eK E i), .int (nI lo), .int (nI hj)] [ob k 8 [.int (nI th), .int (nI tr), .int wh, va_rf g, va_rf rr, .ref (q 5), .int (nI (z 6)), .int (nI (z 7)), .int (nI (z 8)), .int (nI 5), .int (nI (z 10)), .int nb, .int (nI (z 12)), .int wa, .long wd, .ref (q 15), .ref (q 16), .ref (q 17), .ref (q 18), .int (nI (z 19)), .int (nI (z 20)), .ref (q 21), .long (lN ev), .ref (q 23), .ref (q 24), .int (nI (z 25)), .ref (q 26), .int al, .long wl, .int (nI (z 29))]] (roI [ob k 8 [.int (nI th), .int (nI tr), .int wh, va_rf g, va_rf rr, .ref (q 5), .int (nI (z 6)), .int (nI (z 7)), .int (nI (z 8)), .int (nI 5), .int (nI (z 10)), .int nb, .int (nI (z 12)), .int wa, .long wd, .ref (q 15), .ref (q 16), .ref (q 17), .ref (q 18), .int (nI (z 19)), .int (nI (z 20)), .ref (q 21), .long (lN ev), .ref (q 23), .ref (q 24), .int (nI (z 25)), .ref (q 26), .int al, .long wl, .int (nI (z 29))]] (nI lo)) := by
  refine Ct.intro (by decide +kernel) (Nat.le_of_ble_eq_true rfl) (lv := [(0, .ref k), (1, .ref (eK E i)), (2, .int (nI lo)), (3, .int (nI hj))]) rfl ?_
  intro Z X Y
  refine v_aload_n X dX8_readPart_0 rfl 0 rfl ?_
  refine v_aload_n X dX8_readPart_1 rfl 1 rfl ?_
  refine v_roV1 X (rn_V X k_X8_needs ml_X8_122 dX8_readPart_2 (c_X8_needs_o l E k th tr wh g rr q z nb wa wd ev al wl i (by first | assumption | omega)) rfl 0 rfl rfl (by decide) (by decide) (by omega) (by omega) (Nat.le_of_ble_eq_true rfl)) [0] rfl rfl ?_
  refine v_aload_n X dX8_readPart_5 rfl 0 rfl ?_
  refine v_get X kcX8 fl_X8_75 dX8_readPart_6 0 rfl rfl ?_
  refine v_iconst X dX8_readPart_9 (v := nI 3) (by decide) ?_
  refine v_icmpN_eq X dX8_readPart_10 (tgt := 21) (by decide) (by decide) (by decide) (fun h10 => ?_) (fun h10 => ?_)
  · exfalso; omega
  · refine v_aload_n X dX8_readPart_13 rfl 0 rfl ?_
    refine v_iconst X dX8_readPart_14 (v := nI 1) (by decide) ?_
    refine v_roV1 X (rn_V X k_X8_flaw ml_X8_118 dX8_readPart_15 (c_X8_flaw_o l E k th tr wh g rr q z nb wa wd ev al wl 1 ) rfl 0 rfl rfl (by decide) (by decide) (by omega) (by omega) (Nat.le_of_ble_eq_true rfl)) [0] rfl rfl ?_
    refine v_goto X dX8_readPart_18 (tgt := 38) (by decide) ?_
    refine v_aload_n X dX8_readPart_38 rfl 0 rfl ?_
    refine v_get X kcX8 fl_X8_75 dX8_readPart_39 0 rfl rfl ?_
    refine v_iconst X dX8_readPart_42 (v := nI 5) (by decide) ?_
    refine v_icmpN_ne X dX8_readPart_43 (tgt := 50) (by decide) (by decide) (by decide) (fun h43 => ?_) (fun h43 => ?_)
    · exfalso; omega
    · refine v_iload_n X dX8_readPart_46 rfl 2 rfl ?_
      refine v_goto X dX8_readPart_47 (tgt := 54) (by decide) ?_
      refine v_istore X dX8_readPart_54 (by decide) (lv' := [(4, .int (nI lo)), (0, .ref k), (1, .ref (eK E i)), (2, .int (nI lo)), (3, .int (nI hj))]) rfl ?_
      refine v_aload_n X dX8_readPart_56 rfl 1 rfl ?_
      refine v_roV1 X (rn_V X k_X8_goesOn ml_X8_111 dX8_readPart_57 (c_X8_goesOn_o l E k th tr wh g rr q z nb wa wd ev al wl ) rfl 0 rfl rfl (by decide) (by decide) (by omega) (by omega) (Nat.le_of_ble_eq_true rfl)) [0] rfl rfl ?_
      refine v_iload X dX8_readPart_60 0 rfl ?_
      exact v_iret X Y dX8_readPart_62 (roI_of rfl) (by omega) (by omega)
set_option maxRecDepth 100000 in
set_option maxHeartbeats 4000000 in
theorem c_X8_readPartL (l : Launch) (E : Et) (k : Nat) (th : Nat) (tr : Nat) (wh : Int32) (g : Option Nat) (rr : Option Nat) (q : Nat → Nat) (z : Nat → Nat) (nb : Int32) (wa : Int32) (wd : Int64) (ev : Nat) (al : Int32) (wl : Int64) (sz : Nat) (sp : Nat) (so : Nat) (pl : Nat) (tp : Nat → Int32) (tk : Tk) (i : Nat) (lo : Nat) (hj : Nat) (hi : i < 20) (hT8 : T8 tk so pl sp wd nb) (htO : tkO sz tk) (hso : so ≤ 4) (hsz : sz ≤ 900) (hby : byT tp) (hlo : lo < 2 ^ 31) (hhi : hj < 2 ^ 31) : Ct l E yX8_readPart cX8_readPart 5 (some .int) 7 0 0 [.ref k, .ref (eK E i), .int (nI lo), .int (nI hj)] [ob k 8 [.int (nI th), .int (nI tr), .int wh, va_rf g, va_rf rr, .ref (q 5), .int (nI (z 6)), .int (nI sz), .int (nI sp), .int (nI so), .int (nI pl), .int nb, .int (nI (z 12)), .int wa, .long wd, .ref (q 15), .ref (q 16), .ref (q 17), .ref (q 18), .int (nI (z 19)), .int (nI (z 20)), .ref (q 21), .long (lN ev), .ref (q 23), .ref (q 24), .int (nI (z 25)), .ref (q 26), .int al, .long wl, .int (nI (z 29))], aB E (q 5) 900 tp] ((fun r w => (∃ (x : Nat) (tk1 : Tk) (so1 : Nat) (pl1 : Nat) (sp1 : Nat) (wd1 : Int64) (nb1 : Int32), (sb (wdS tp sz i tk) (whS tp sz lo hj) = .inr (x, tk1)) ∧ (T8 tk1 so1 pl1 sp1 wd1 nb1) ∧ (tkO sz tk1) ∧ (so1 ≤ 4) ∧ (lo ≤ x) ∧ (x ≤ hj) ∧ w = [ob k 8 [.int (nI th), .int (nI tr), .int wh, va_rf g, va_rf rr, .ref (q 5), .int (nI (z 6)), .int (nI sz), .int (nI sp1), .int (nI so1), .int (nI pl1), .int nb1, .int (nI (z 12)), .int wa, .long wd1, .ref (q 15), .ref (q 16), .ref (q 17), .ref (q 18), .int (nI (z 19)), .int (nI (z 20)), .ref (q 21), .long (lN ev), .ref (q 23), .ref (q 24), .int (nI (z 25)), .ref (q 26), .int al, .long wl, .int (nI (z 29))], aB E (q 5) 900 tp] ∧ r = some (.int (nI x))) ∨ (∃ (f : Nat) (p : Nat) (pl1 : Nat) (sp1 : Nat) (wd1 : Int64) (nb1 : Int32), (sb (wdS tp sz i tk) (whS tp sz lo hj) = .inl (f, p)) ∧ w = [ob k 8 [.int (nI th), .int (nI tr), .int wh, va_rf g, va_rf rr, .ref (q 5), .int (nI (z 6)), .int (nI sz), .int (nI sp1), .int (nI 5), .int (nI pl1), .int nb1, .int (nI f), .int (nI p), .long wd1, .ref (q 15), .ref (q 16), .ref (q 17), .ref (q 18), .int (nI (z 19)), .int (nI (z 20)), .ref (q 21), .long (lN ev), .ref (q 23), .ref (q 24), .int (nI (z 25)), .ref (q 26), .int al, .long wl, .int (nI (z 29))], aB E (q 5) 900 tp] ∧ r = some (.int (nI lo))))) := by
  refine Ct.intro (by decide +kernel) (Nat.le_of_ble_eq_true rfl) (lv := [(0, .ref k), (1, .ref (eK E i)), (2, .int (nI lo)), (3, .int (nI hj))]) rfl ?_
  intro Z X Y
  refine v_aload_n X dX8_readPart_0 rfl 0 rfl ?_
  refine v_aload_n X dX8_readPart_1 rfl 1 rfl ?_
  refine v_wr X (rn_V X k_X8_needs ml_X8_122 dX8_readPart_2 (c_X8_needsL l E k th tr wh g rr q z nb wa wd ev al wl sz sp so pl tp tk i (by first | assumption | omega) (by first | assumption | omega) (by first | assumption | omega) (by first | assumption | omega) (by first | assumption | omega) (by first | assumption | omega)) rfl 0 rfl rfl (by decide) (by decide) (by omega) (by omega) (Nat.le_of_ble_eq_true rfl)) [0, 1] rfl rfl (fun r w1 hpo => ?_)
  rcases hpo with ⟨tk1_2, so1_2, pl1_2, sp1_2, wd1_2, nb1_2, hW_2, hT_2, hU_2, hS_2, rfl, rfl⟩ | ⟨p_2, hW_2, rfl, rfl⟩
  · refine ⟨rfl, ?_⟩
    refine V.cast (st' := []) (ws' := [ob k 8 [.int (nI th), .int (nI tr), .int wh, va_rf g, va_rf rr, .ref (q 5), .int (nI (z 6)), .int (nI sz), .int (nI sp1_2), .int (nI so1_2), .int (nI pl1_2), .int nb1_2, .int (nI (z 12)), .int wa, .long wd1_2, .ref (q 15), .ref (q 16), .ref (q 17), .ref (q 18), .int (nI (z 19)), .int (nI (z 20)), .ref (q 21), .long (lN ev), .ref (q 23), .ref (q 24), .int (nI (z 25)), .ref (q 26), .int al, .long wl, .int (nI (z 29))], aB E (q 5) 900 tp]) rfl rfl rfl ?_
    refine v_aload_n X dX8_readPart_5 rfl 0 rfl ?_
    refine v_get X kcX8 fl_X8_75 dX8_readPart_6 0 rfl rfl ?_
    refine v_iconst X dX8_readPart_9 (v := nI 3) (by decide) ?_
    refine v_icmpN_eq X dX8_readPart_10 (tgt := 21) (by decide) (by omega) (by decide) (fun h10 => ?_) (fun h10 => ?_)
    · refine v_aload_n X dX8_readPart_21 rfl 0 rfl ?_
      refine v_get X kcX8 fl_X8_98 dX8_readPart_22 0 rfl rfl ?_
      refine v_iload_n X dX8_readPart_25 rfl 2 rfl ?_
      refine v_iload_n X dX8_readPart_26 rfl 3 rfl ?_
      refine v_roI1 X (rn_S X k_X8_in ml_X8_126 dX8_readPart_27 (c_X8_in l E nb1_2 (nI lo) (nI hj) ) rfl (by decide) (by decide) (by omega) (by omega) (Nat.le_of_ble_eq_true rfl)) [] rfl rfl ?_
      refine v_ifB_ne X dX8_readPart_30 (tgt := 38) (by decide) (fun h30 => ?_) (fun h30 => ?_)
      · refine v_aload_n X dX8_readPart_38 rfl 0 rfl ?_
        refine v_get X kcX8 fl_X8_75 dX8_readPart_39 0 rfl rfl ?_
        refine v_iconst X dX8_readPart_42 (v := nI 5) (by decide) ?_
        refine v_icmpN_ne X dX8_readPart_43 (tgt := 50) (by decide) (by omega) (by decide) (fun h43 => ?_) (fun h43 => ?_)
        · refine v_aload_n X dX8_readPart_50 rfl 0 rfl ?_
          refine v_get X kcX8 fl_X8_98 dX8_readPart_51 0 rfl rfl ?_
          refine v_eqi (x' := nI (vlN tk1_2.2.2.2)) ((t8_3 hT_2).2 h10).2 ?_
          have hspe : sp1_2 = tk1_2.2.2.1 := t8_sp hT_2 (by omega)
          refine v_istore X dX8_readPart_54 (by decide) (lv' := [(4, .int (nI (vlN tk1_2.2.2.2))), (0, .ref k), (1, .ref (eK E i)), (2, .int (nI lo)), (3, .int (nI hj))]) rfl ?_
          refine v_aload_n X dX8_readPart_56 rfl 1 rfl ?_
          refine v_wr X (rn_V X k_X8_goesOn ml_X8_111 dX8_readPart_57 (c_X8_goesOnL l E k th tr wh g rr q z nb1_2 wa wd1_2 ev al wl sz sp1_2 so1_2 pl1_2 tp tk1_2.2.2.2 (by omega) (by first | assumption | omega) (by rw [hspe]; exact hU_2.2.2.1) (by first | assumption | omega)) rfl 0 rfl rfl (by decide) (by decide) (by omega) (by omega) (Nat.le_of_ble_eq_true rfl)) [0, 1] rfl rfl (fun r w1 hpo => ?_)
          rcases hpo with ⟨so1_57, pl1_57, sp1_57, wd1_57, nb1_57, hT8_57, hs1_57, hs4_57, rfl, rfl⟩
          · refine ⟨rfl, ?_⟩
            refine V.cast (st' := []) (ws' := [ob k 8 [.int (nI th), .int (nI tr), .int wh, va_rf g, va_rf rr, .ref (q 5), .int (nI (z 6)), .int (nI sz), .int (nI sp1_57), .int (nI so1_57), .int (nI pl1_57), .int nb1_57, .int (nI (z 12)), .int wa, .long wd1_57, .ref (q 15), .ref (q 16), .ref (q 17), .ref (q 18), .int (nI (z 19)), .int (nI (z 20)), .ref (q 21), .long (lN ev), .ref (q 23), .ref (q 24), .int (nI (z 25)), .ref (q 26), .int al, .long wl, .int (nI (z 29))], aB E (q 5) 900 tp]) rfl rfl rfl ?_
            refine v_iload X dX8_readPart_60 0 rfl ?_
            exact v_iret X Y dX8_readPart_62 (Or.inl ⟨(vlN tk1_2.2.2.2), (advK tp sz tk1_2), so1_57, pl1_57, sp1_57, wd1_57, nb1_57, (by rw [hW_2, sb_k]; exact wh_ok (((t8_3 hT_2).1).mp h10) ((in_vl hT_2 h10 hlo hhi).mp (of_decide_eq_true h30))), (by have h9 := hT8_57; rw [hspe] at h9; exact h9), ((advK_ok hU_2).1), (hs4_57), (((in_vl hT_2 h10 hlo hhi).mp (of_decide_eq_true h30)).1), (((in_vl hT_2 h10 hlo hhi).mp (of_decide_eq_true h30)).2), rfl, rfl⟩) (by omega) (by omega)
        · exfalso; omega
      · refine v_aload_n X dX8_readPart_33 rfl 0 rfl ?_
        refine v_iconst X dX8_readPart_34 (v := nI 4) (by decide) ?_
        refine v_wrV1 X (rn_V X k_X8_flaw ml_X8_118 dX8_readPart_35 (c_X8_flaw l E k th tr wh g rr q (upN (upN z 7 sz) 8 sp1_2) nb1_2 wa wd1_2 ev al wl so1_2 pl1_2 4 (by omega)) rfl 0 rfl rfl (by decide) (by decide) (by omega) (by omega) (Nat.le_of_ble_eq_true rfl)) [0] rfl rfl (ws' := [ob k 8 [.int (nI th), .int (nI tr), .int wh, va_rf g, va_rf rr, .ref (q 5), .int (nI (z 6)), .int (nI sz), .int (nI sp1_2), .int (nI 5), .int (nI pl1_2), .int nb1_2, .int (nI 4), .int (nI pl1_2), .long wd1_2, .ref (q 15), .ref (q 16), .ref (q 17), .ref (q 18), .int (nI (z 19)), .int (nI (z 20)), .ref (q 21), .long (lN ev), .ref (q 23), .ref (q 24), .int (nI (z 25)), .ref (q 26), .int al, .long wl, .int (nI (z 29))], aB E (q 5) 900 tp]) rfl rfl ?_
        refine v_aload_n X dX8_readPart_38 rfl 0 rfl ?_
        refine v_get X kcX8 fl_X8_75 dX8_readPart_39 0 rfl rfl ?_
        refine v_iconst X dX8_readPart_42 (v := nI 5) (by decide) ?_
        refine v_icmpN_ne X dX8_readPart_43 (tgt := 50) (by decide) (by decide) (by decide) (fun h43 => ?_) (fun h43 => ?_)
        · exfalso; omega
        · refine v_iload_n X dX8_readPart_46 rfl 2 rfl ?_
          refine v_goto X dX8_readPart_47 (tgt := 54) (by decide) ?_
          refine v_istore X dX8_readPart_54 (by decide) (lv' := [(4, .int (nI lo)), (0, .ref k), (1, .ref (eK E i)), (2, .int (nI lo)), (3, .int (nI hj))]) rfl ?_
          refine v_aload_n X dX8_readPart_56 rfl 1 rfl ?_
          refine v_roV1 X (rn_V X k_X8_goesOn ml_X8_111 dX8_readPart_57 (c_X8_goesOn_o l E k th tr wh g rr q (upN (upN (upN (upN z 7 sz) 8 sp1_2) 10 pl1_2) 12 4) nb1_2 (nI pl1_2) wd1_2 ev al wl ) rfl 0 rfl rfl (by decide) (by decide) (by omega) (by omega) (Nat.le_of_ble_eq_true rfl)) [0] rfl rfl ?_
          refine v_iload X dX8_readPart_60 0 rfl ?_
          exact v_iret X Y dX8_readPart_62 (Or.inr ⟨4, pl1_2, pl1_2, sp1_2, wd1_2, nb1_2, (by rw [hW_2, sb_k, show pl1_2 = tk1_2.2.1 from hT_2.1]; exact wh_4 (((t8_3 hT_2).1).mp h10) (fun z => of_decide_eq_false h30 ((in_vl hT_2 h10 hlo hhi).mpr z))), rfl, rfl⟩) (by omega) (by omega)
    · refine v_aload_n X dX8_readPart_13 rfl 0 rfl ?_
      refine v_iconst X dX8_readPart_14 (v := nI 1) (by decide) ?_
      refine v_wrV1 X (rn_V X k_X8_flaw ml_X8_118 dX8_readPart_15 (c_X8_flaw l E k th tr wh g rr q (upN (upN z 7 sz) 8 sp1_2) nb1_2 wa wd1_2 ev al wl so1_2 pl1_2 1 (by omega)) rfl 0 rfl rfl (by decide) (by decide) (by omega) (by omega) (Nat.le_of_ble_eq_true rfl)) [0] rfl rfl (ws' := [ob k 8 [.int (nI th), .int (nI tr), .int wh, va_rf g, va_rf rr, .ref (q 5), .int (nI (z 6)), .int (nI sz), .int (nI sp1_2), .int (nI 5), .int (nI pl1_2), .int nb1_2, .int (nI 1), .int (nI pl1_2), .long wd1_2, .ref (q 15), .ref (q 16), .ref (q 17), .ref (q 18), .int (nI (z 19)), .int (nI (z 20)), .ref (q 21), .long (lN ev), .ref (q 23), .ref (q 24), .int (nI (z 25)), .ref (q 26), .int al, .long wl, .int (nI (z 29))], aB E (q 5) 900 tp]) rfl rfl ?_
      refine v_goto X dX8_readPart_18 (tgt := 38) (by decide) ?_
      refine v_aload_n X dX8_readPart_38 rfl 0 rfl ?_
      refine v_get X kcX8 fl_X8_75 dX8_readPart_39 0 rfl rfl ?_
      refine v_iconst X dX8_readPart_42 (v := nI 5) (by decide) ?_
      refine v_icmpN_ne X dX8_readPart_43 (tgt := 50) (by decide) (by decide) (by decide) (fun h43 => ?_) (fun h43 => ?_)
      · exfalso; omega
      · refine v_iload_n X dX8_readPart_46 rfl 2 rfl ?_
        refine v_goto X dX8_readPart_47 (tgt := 54) (by decide) ?_
        refine v_istore X dX8_readPart_54 (by decide) (lv' := [(4, .int (nI lo)), (0, .ref k), (1, .ref (eK E i)), (2, .int (nI lo)), (3, .int (nI hj))]) rfl ?_
        refine v_aload_n X dX8_readPart_56 rfl 1 rfl ?_
        refine v_roV1 X (rn_V X k_X8_goesOn ml_X8_111 dX8_readPart_57 (c_X8_goesOn_o l E k th tr wh g rr q (upN (upN (upN (upN z 7 sz) 8 sp1_2) 10 pl1_2) 12 1) nb1_2 (nI pl1_2) wd1_2 ev al wl ) rfl 0 rfl rfl (by decide) (by decide) (by omega) (by omega) (Nat.le_of_ble_eq_true rfl)) [0] rfl rfl ?_
        refine v_iload X dX8_readPart_60 0 rfl ?_
        exact v_iret X Y dX8_readPart_62 (Or.inr ⟨1, pl1_2, pl1_2, sp1_2, wd1_2, nb1_2, (by rw [hW_2, sb_k, show pl1_2 = tk1_2.2.1 from hT_2.1]; exact wh_1 (fun z => h10 (((t8_3 hT_2).1).mpr z))), rfl, rfl⟩) (by omega) (by omega)
  · refine ⟨rfl, ?_⟩
    refine V.cast (st' := []) (ws' := [ob k 8 [.int (nI th), .int (nI tr), .int wh, va_rf g, va_rf rr, .ref (q 5), .int (nI (z 6)), .int (nI sz), .int (nI sp), .int (nI 5), .int (nI pl), .int nb, .int (nI 1), .int (nI p_2), .long wd, .ref (q 15), .ref (q 16), .ref (q 17), .ref (q 18), .int (nI (z 19)), .int (nI (z 20)), .ref (q 21), .long (lN ev), .ref (q 23), .ref (q 24), .int (nI (z 25)), .ref (q 26), .int al, .long wl, .int (nI (z 29))], aB E (q 5) 900 tp]) rfl rfl rfl ?_
    refine v_aload_n X dX8_readPart_5 rfl 0 rfl ?_
    refine v_get X kcX8 fl_X8_75 dX8_readPart_6 0 rfl rfl ?_
    refine v_iconst X dX8_readPart_9 (v := nI 3) (by decide) ?_
    refine v_icmpN_eq X dX8_readPart_10 (tgt := 21) (by decide) (by decide) (by decide) (fun h10 => ?_) (fun h10 => ?_)
    · exfalso; omega
    · refine v_aload_n X dX8_readPart_13 rfl 0 rfl ?_
      refine v_iconst X dX8_readPart_14 (v := nI 1) (by decide) ?_
      refine v_roV1 X (rn_V X k_X8_flaw ml_X8_118 dX8_readPart_15 (c_X8_flaw_o l E k th tr wh g rr q (upN (upN (upN (upN z 7 sz) 8 sp) 10 pl) 12 1) nb (nI p_2) wd ev al wl 1 ) rfl 0 rfl rfl (by decide) (by decide) (by omega) (by omega) (Nat.le_of_ble_eq_true rfl)) [0] rfl rfl ?_
      refine v_goto X dX8_readPart_18 (tgt := 38) (by decide) ?_
      refine v_aload_n X dX8_readPart_38 rfl 0 rfl ?_
      refine v_get X kcX8 fl_X8_75 dX8_readPart_39 0 rfl rfl ?_
      refine v_iconst X dX8_readPart_42 (v := nI 5) (by decide) ?_
      refine v_icmpN_ne X dX8_readPart_43 (tgt := 50) (by decide) (by decide) (by decide) (fun h43 => ?_) (fun h43 => ?_)
      · exfalso; omega
      · refine v_iload_n X dX8_readPart_46 rfl 2 rfl ?_
        refine v_goto X dX8_readPart_47 (tgt := 54) (by decide) ?_
        refine v_istore X dX8_readPart_54 (by decide) (lv' := [(4, .int (nI lo)), (0, .ref k), (1, .ref (eK E i)), (2, .int (nI lo)), (3, .int (nI hj))]) rfl ?_
        refine v_aload_n X dX8_readPart_56 rfl 1 rfl ?_
        refine v_roV1 X (rn_V X k_X8_goesOn ml_X8_111 dX8_readPart_57 (c_X8_goesOn_o l E k th tr wh g rr q (upN (upN (upN (upN z 7 sz) 8 sp) 10 pl) 12 1) nb (nI p_2) wd ev al wl ) rfl 0 rfl rfl (by decide) (by decide) (by omega) (by omega) (Nat.le_of_ble_eq_true rfl)) [0] rfl rfl ?_
        refine v_iload X dX8_readPart_60 0 rfl ?_
        exact v_iret X Y dX8_readPart_62 (Or.inr ⟨1, p_2, pl, sp, wd, nb, (by rw [hW_2, sb_e]), rfl, rfl⟩) (by omega) (by omega)
