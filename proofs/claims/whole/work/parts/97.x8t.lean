set_option maxRecDepth 100000 in
set_option maxHeartbeats 4000000 in
theorem c_X8_goesOnL (l : Launch) (E : Et) (k : Nat) (th : Nat) (tr : Nat) (wh : Int32) (g : Option Nat) (rr : Option Nat) (q : Nat → Nat) (z : Nat → Nat) (nb : Int32) (wa : Int32) (wd : Int64) (ev : Nat) (al : Int32) (wl : Int64) (sz : Nat) (sp : Nat) (so : Nat) (pl : Nat) (tp : Nat → Int32) (v : Int64) (hso : so ≤ 4) (hsz : sz ≤ 900) (hsp : sp ≤ sz) (hby : byT tp) : Ct l E yX8_goesOn cX8_goesOn 3 none 1 0 0 [.ref k] [ob k 8 [.int (nI th), .int (nI tr), .int wh, va_rf g, va_rf rr, .ref (q 5), .int (nI (z 6)), .int (nI sz), .int (nI sp), .int (nI so), .int (nI pl), .int nb, .int (nI (z 12)), .int wa, .long wd, .ref (q 15), .ref (q 16), .ref (q 17), .ref (q 18), .int (nI (z 19)), .int (nI (z 20)), .ref (q 21), .long (lN ev), .ref (q 23), .ref (q 24), .int (nI (z 25)), .ref (q 26), .int al, .long wl, .int (nI (z 29))], aB E (q 5) 900 tp] ((fun r w => (∃ (so1 : Nat) (pl1 : Nat) (sp1 : Nat) (wd1 : Int64) (nb1 : Int32), (T8 (advF tp sz sp v) so1 pl1 sp1 wd1 nb1) ∧ (sp1 ≤ sz) ∧ (so1 ≤ 4) ∧ w = [ob k 8 [.int (nI th), .int (nI tr), .int wh, va_rf g, va_rf rr, .ref (q 5), .int (nI (z 6)), .int (nI sz), .int (nI sp1), .int (nI so1), .int (nI pl1), .int nb1, .int (nI (z 12)), .int wa, .long wd1, .ref (q 15), .ref (q 16), .ref (q 17), .ref (q 18), .int (nI (z 19)), .int (nI (z 20)), .ref (q 21), .long (lN ev), .ref (q 23), .ref (q 24), .int (nI (z 25)), .ref (q 26), .int al, .long wl, .int (nI (z 29))], aB E (q 5) 900 tp] ∧ r = none))) := by
  refine Ct.intro (by decide +kernel) (Nat.le_of_ble_eq_true rfl) (lv := [(0, .ref k)]) rfl ?_
  intro Z X Y
  refine v_aload_n X dX8_goesOn_0 rfl 0 rfl ?_
  refine v_get X kcX8 fl_X8_75 dX8_goesOn_1 0 rfl rfl ?_
  refine v_iconst X dX8_goesOn_4 (v := nI 5) (by decide) ?_
  refine v_icmpN_ne X dX8_goesOn_5 (tgt := 9) (by decide) (by omega) (by decide) (fun h5 => ?_) (fun h5 => ?_)
  · have L9 : ∀ (j9 : Nat) (vp : Nat), (vp ≤ sz ∧ spcF tp sz (sz - sp) sp = spcF tp sz (sz - vp) vp) → sz - vp < j9 → V E Z 9 [(0, .ref k)] [] [ob k 8 [.int (nI th), .int (nI tr), .int wh, va_rf g, va_rf rr, .ref (q 5), .int (nI (z 6)), .int (nI sz), .int (nI vp), .int (nI so), .int (nI pl), .int nb, .int (nI (z 12)), .int wa, .long wd, .ref (q 15), .ref (q 16), .ref (q 17), .ref (q 18), .int (nI (z 19)), .int (nI (z 20)), .ref (q 21), .long (lN ev), .ref (q 23), .ref (q 24), .int (nI (z 25)), .ref (q 26), .int al, .long wl, .int (nI (z 29))], aB E (q 5) 900 tp] 0 0 := by
      intro j9
      induction j9 with
      | zero => intro vp hI hM; exact absurd hM (Nat.not_lt_zero _)
      | succ j9 ih9 =>
        intro vp hI9 hM9
        obtain ⟨hcv, hq⟩ := id hI9
        refine v_aload_n X dX8_goesOn_9 rfl 0 rfl ?_
        refine v_aload_n X dX8_goesOn_10 rfl 0 rfl ?_
        refine v_get X kcX8 fl_X8_78 dX8_goesOn_11 0 rfl rfl ?_
        refine v_roI1 X (rn_V X k_X8_byteAt ml_X8_81 dX8_goesOn_14 (c_X8_byteAt l E k th tr wh g rr q (upN (upN (upN z 8 vp) 9 so) 10 pl) nb wa wd ev al wl sz tp vp (by first | assumption | omega) (by omega) (by first | assumption | omega)) rfl 0 rfl rfl (by decide) (by decide) (by omega) (by omega) (Nat.le_of_ble_eq_true rfl)) [0, 1] rfl rfl ?_
        rcases Nat.lt_or_ge vp sz with hlvp | hlvp
        · have hbvp : bN tp vp < 256 := (bN_b hby vp).1
          refine v_eqi (x' := nI (bN tp vp)) (if_pos hlvp) ?_
          refine v_bipush X dX8_goesOn_17 (v := nI 32) (by decide) ?_
          refine v_icmpN_ne X dX8_goesOn_19 (tgt := 35) (by decide) (by omega) (by decide) (fun h19 => ?_) (fun h19 => ?_)
          · refine v_aload_n X dX8_goesOn_35 rfl 0 rfl ?_
            refine v_aload_n X dX8_goesOn_36 rfl 0 rfl ?_
            refine v_get X kcX8 fl_X8_78 dX8_goesOn_37 0 rfl rfl ?_
            refine v_put X kcX8 fl_X8_84 dX8_goesOn_40 0 rfl (ws' := [ob k 8 [.int (nI th), .int (nI tr), .int wh, va_rf g, va_rf rr, .ref (q 5), .int (nI (z 6)), .int (nI sz), .int (nI vp), .int (nI so), .int (nI vp), .int nb, .int (nI (z 12)), .int wa, .long wd, .ref (q 15), .ref (q 16), .ref (q 17), .ref (q 18), .int (nI (z 19)), .int (nI (z 20)), .ref (q 21), .long (lN ev), .ref (q 23), .ref (q 24), .int (nI (z 25)), .ref (q 26), .int al, .long wl, .int (nI (z 29))], aB E (q 5) 900 tp]) rfl rfl ?_
            refine v_aload_n X dX8_goesOn_43 rfl 0 rfl ?_
            refine v_iconst X dX8_goesOn_44 (v := nI 0) (by decide) ?_
            refine v_put X kcX8 fl_X8_75 dX8_goesOn_45 0 rfl (ws' := [ob k 8 [.int (nI th), .int (nI tr), .int wh, va_rf g, va_rf rr, .ref (q 5), .int (nI (z 6)), .int (nI sz), .int (nI vp), .int (nI 0), .int (nI vp), .int nb, .int (nI (z 12)), .int wa, .long wd, .ref (q 15), .ref (q 16), .ref (q 17), .ref (q 18), .int (nI (z 19)), .int (nI (z 20)), .ref (q 21), .long (lN ev), .ref (q 23), .ref (q 24), .int (nI (z 25)), .ref (q 26), .int al, .long wl, .int (nI (z 29))], aB E (q 5) 900 tp]) rfl rfl ?_
            refine v_aload_n X dX8_goesOn_48 rfl 0 rfl ?_
            refine v_aload_n X dX8_goesOn_49 rfl 0 rfl ?_
            refine v_get X kcX8 fl_X8_78 dX8_goesOn_50 0 rfl rfl ?_
            refine v_roI1 X (rn_V X k_X8_byteAt ml_X8_81 dX8_goesOn_53 (c_X8_byteAt l E k th tr wh g rr q (upN (upN (upN z 8 vp) 9 0) 10 vp) nb wa wd ev al wl sz tp vp (by first | assumption | omega) (by omega) (by first | assumption | omega)) rfl 0 rfl rfl (by decide) (by decide) (by omega) (by omega) (Nat.le_of_ble_eq_true rfl)) [0, 1] rfl rfl ?_
            refine v_eqi (x' := nI (bN tp vp)) (if_pos hlvp) ?_
            refine v_istore_n X dX8_goesOn_56 rfl (by decide) (lv' := [(1, .int (nI (bN tp vp))), (0, .ref k)]) rfl ?_
            refine v_iconst X dX8_goesOn_57 (v := nI 0) (by decide) ?_
            refine v_istore_n X dX8_goesOn_58 rfl (by decide) (lv' := [(2, .int (nI 0)), (1, .int (nI (bN tp vp))), (0, .ref k)]) rfl ?_
            refine v_iload_n X dX8_goesOn_59 rfl 1 rfl ?_
            refine v_iconst X dX8_goesOn_60 (v := (-1)) (by decide) ?_
            refine v_icmp_ne X dX8_goesOn_61 (tgt := 72) (by decide) (fun h61 => ?_) (fun h61 => ?_)
            · refine v_iload_n X dX8_goesOn_72 rfl 1 rfl ?_
              refine v_roI1 X (rn_S X k_X8_isLetter ml_X8_87 dX8_goesOn_73 (c_X8_isLetter l E (nI (bN tp vp)) ) rfl (by decide) (by decide) (by omega) (by omega) (Nat.le_of_ble_eq_true rfl)) [] rfl rfl ?_
              refine v_ifB_eq X dX8_goesOn_76 (tgt := 161) (by decide) (fun h76 => ?_) (fun h76 => ?_)
              · refine v_iload_n X dX8_goesOn_161 rfl 1 rfl ?_
                refine v_roI1 X (rn_S X k_X8_isDigit ml_X8_95 dX8_goesOn_162 (c_X8_isDigit l E (nI (bN tp vp)) ) rfl (by decide) (by decide) (by omega) (by omega) (Nat.le_of_ble_eq_true rfl)) [] rfl rfl ?_
                refine v_ifB_eq X dX8_goesOn_165 (tgt := 244) (by decide) (fun h165 => ?_) (fun h165 => ?_)
                · refine v_iload_n X dX8_goesOn_244 rfl 1 rfl ?_
                  refine v_bipush X dX8_goesOn_245 (v := nI 59) (by decide) ?_
                  refine v_icmpN_eq X dX8_goesOn_247 (tgt := 256) (by decide) (by omega) (by decide) (fun h247 => ?_) (fun h247 => ?_)
                  · refine v_aload_n X dX8_goesOn_256 rfl 2 rfl ?_
                    refine v_iconst X dX8_goesOn_257 (v := nI 4) (by decide) ?_
                    refine v_put X kcX8 fl_X8_75 dX8_goesOn_258 0 rfl (ws' := [ob k 8 [.int (nI th), .int (nI tr), .int wh, va_rf g, va_rf rr, .ref (q 5), .int (nI (z 6)), .int (nI sz), .int (nI vp), .int (nI 4), .int (nI vp), .int nb, .int (nI (z 12)), .int wa, .long wd, .ref (q 15), .ref (q 16), .ref (q 17), .ref (q 18), .int (nI (z 19)), .int (nI (z 20)), .ref (q 21), .long (lN ev), .ref (q 23), .ref (q 24), .int (nI (z 25)), .ref (q 26), .int al, .long wl, .int (nI (z 29))], aB E (q 5) 900 tp]) rfl rfl ?_
                    refine v_aload_n X dX8_goesOn_261 rfl 2 rfl ?_
                    refine v_iload_n X dX8_goesOn_262 rfl 1 rfl ?_
                    refine v_put X kcX8 fl_X8_98 dX8_goesOn_263 0 rfl (ws' := [ob k 8 [.int (nI th), .int (nI tr), .int wh, va_rf g, va_rf rr, .ref (q 5), .int (nI (z 6)), .int (nI sz), .int (nI vp), .int (nI 4), .int (nI vp), .int (nI (bN tp vp)), .int (nI (z 12)), .int wa, .long wd, .ref (q 15), .ref (q 16), .ref (q 17), .ref (q 18), .int (nI (z 19)), .int (nI (z 20)), .ref (q 21), .long (lN ev), .ref (q 23), .ref (q 24), .int (nI (z 25)), .ref (q 26), .int al, .long wl, .int (nI (z 29))], aB E (q 5) 900 tp]) rfl rfl ?_
                    refine v_aload_n X dX8_goesOn_266 rfl 2 rfl ?_
                    refine v_dup X dX8_goesOn_267 rfl ?_
                    refine v_get X kcX8 fl_X8_78 dX8_goesOn_268 0 rfl rfl ?_
                    refine v_iconst X dX8_goesOn_271 (v := nI 1) (by decide) ?_
                    refine v_iadd X dX8_goesOn_272 ?_
                    refine v_eqi (x' := nI (vp + 1)) (nI_add _ _) ?_
                    refine v_put X kcX8 fl_X8_78 dX8_goesOn_273 0 rfl (ws' := [ob k 8 [.int (nI th), .int (nI tr), .int wh, va_rf g, va_rf rr, .ref (q 5), .int (nI (z 6)), .int (nI sz), .int (nI (vp + 1)), .int (nI 4), .int (nI vp), .int (nI (bN tp vp)), .int (nI (z 12)), .int wa, .long wd, .ref (q 15), .ref (q 16), .ref (q 17), .ref (q 18), .int (nI (z 19)), .int (nI (z 20)), .ref (q 21), .long (lN ev), .ref (q 23), .ref (q 24), .int (nI (z 25)), .ref (q 26), .int al, .long wl, .int (nI (z 29))], aB E (q 5) 900 tp]) rfl rfl ?_
                    exact v_vret X Y dX8_goesOn_276 ⟨4, vp, vp + 1, wd, (nI (bN tp vp)), (t8_s hby (hq.trans (spc_no hlvp (fun z => h19 ((b_32 hby vp).mp z)))) hlvp (fun z => of_decide_eq_false h76 ((az_d hbvp).mpr z)) (fun z => of_decide_eq_false h165 ((dg_d hbvp).mpr z)) h247), (by omega), (by omega), rfl, rfl⟩ (by omega) (by omega)
                  · refine v_iload_n X dX8_goesOn_250 rfl 1 rfl ?_
                    refine v_bipush X dX8_goesOn_251 (v := nI 44) (by decide) ?_
                    refine v_icmpN_ne X dX8_goesOn_253 (tgt := 276) (by decide) (by omega) (by decide) (fun h253 => ?_) (fun h253 => ?_)
                    · exact v_vret X Y dX8_goesOn_276 ⟨0, vp, vp, wd, nb, (t8_b hby (hq.trans (spc_no hlvp (fun z => h19 ((b_32 hby vp).mp z)))) hlvp (fun z => of_decide_eq_false h76 ((az_d hbvp).mpr z)) (fun z => of_decide_eq_false h165 ((dg_d hbvp).mpr z)) h247 h253), (by omega), (by omega), rfl, rfl⟩ (by omega) (by omega)
                    · refine v_aload_n X dX8_goesOn_256 rfl 2 rfl ?_
                      refine v_iconst X dX8_goesOn_257 (v := nI 4) (by decide) ?_
                      refine v_put X kcX8 fl_X8_75 dX8_goesOn_258 0 rfl (ws' := [ob k 8 [.int (nI th), .int (nI tr), .int wh, va_rf g, va_rf rr, .ref (q 5), .int (nI (z 6)), .int (nI sz), .int (nI vp), .int (nI 4), .int (nI vp), .int nb, .int (nI (z 12)), .int wa, .long wd, .ref (q 15), .ref (q 16), .ref (q 17), .ref (q 18), .int (nI (z 19)), .int (nI (z 20)), .ref (q 21), .long (lN ev), .ref (q 23), .ref (q 24), .int (nI (z 25)), .ref (q 26), .int al, .long wl, .int (nI (z 29))], aB E (q 5) 900 tp]) rfl rfl ?_
                      refine v_aload_n X dX8_goesOn_261 rfl 2 rfl ?_
                      refine v_iload_n X dX8_goesOn_262 rfl 1 rfl ?_
                      refine v_put X kcX8 fl_X8_98 dX8_goesOn_263 0 rfl (ws' := [ob k 8 [.int (nI th), .int (nI tr), .int wh, va_rf g, va_rf rr, .ref (q 5), .int (nI (z 6)), .int (nI sz), .int (nI vp), .int (nI 4), .int (nI vp), .int (nI (bN tp vp)), .int (nI (z 12)), .int wa, .long wd, .ref (q 15), .ref (q 16), .ref (q 17), .ref (q 18), .int (nI (z 19)), .int (nI (z 20)), .ref (q 21), .long (lN ev), .ref (q 23), .ref (q 24), .int (nI (z 25)), .ref (q 26), .int al, .long wl, .int (nI (z 29))], aB E (q 5) 900 tp]) rfl rfl ?_
                      refine v_aload_n X dX8_goesOn_266 rfl 2 rfl ?_
                      refine v_dup X dX8_goesOn_267 rfl ?_
                      refine v_get X kcX8 fl_X8_78 dX8_goesOn_268 0 rfl rfl ?_
                      refine v_iconst X dX8_goesOn_271 (v := nI 1) (by decide) ?_
                      refine v_iadd X dX8_goesOn_272 ?_
                      refine v_eqi (x' := nI (vp + 1)) (nI_add _ _) ?_
                      refine v_put X kcX8 fl_X8_78 dX8_goesOn_273 0 rfl (ws' := [ob k 8 [.int (nI th), .int (nI tr), .int wh, va_rf g, va_rf rr, .ref (q 5), .int (nI (z 6)), .int (nI sz), .int (nI (vp + 1)), .int (nI 4), .int (nI vp), .int (nI (bN tp vp)), .int (nI (z 12)), .int wa, .long wd, .ref (q 15), .ref (q 16), .ref (q 17), .ref (q 18), .int (nI (z 19)), .int (nI (z 20)), .ref (q 21), .long (lN ev), .ref (q 23), .ref (q 24), .int (nI (z 25)), .ref (q 26), .int al, .long wl, .int (nI (z 29))], aB E (q 5) 900 tp]) rfl rfl ?_
                      exact v_vret X Y dX8_goesOn_276 ⟨4, vp, vp + 1, wd, (nI (bN tp vp)), (t8_c hby (hq.trans (spc_no hlvp (fun z => h19 ((b_32 hby vp).mp z)))) hlvp (fun z => of_decide_eq_false h76 ((az_d hbvp).mpr z)) (fun z => of_decide_eq_false h165 ((dg_d hbvp).mpr z)) h253), (by omega), (by omega), rfl, rfl⟩ (by omega) (by omega)
                · refine v_aload_n X dX8_goesOn_168 rfl 2 rfl ?_
                  refine v_iconst X dX8_goesOn_169 (v := nI 0) (by decide) ?_
                  refine v_put X kcX8 fl_X8_98 dX8_goesOn_170 0 rfl (ws' := [ob k 8 [.int (nI th), .int (nI tr), .int wh, va_rf g, va_rf rr, .ref (q 5), .int (nI (z 6)), .int (nI sz), .int (nI vp), .int (nI 0), .int (nI vp), .int (nI 0), .int (nI (z 12)), .int wa, .long wd, .ref (q 15), .ref (q 16), .ref (q 17), .ref (q 18), .int (nI (z 19)), .int (nI (z 20)), .ref (q 21), .long (lN ev), .ref (q 23), .ref (q 24), .int (nI (z 25)), .ref (q 26), .int al, .long wl, .int (nI (z 29))], aB E (q 5) 900 tp]) rfl rfl ?_
                  have L173 : ∀ (j173 : Nat) (vq : Nat) (vn : Nat) (vb : Int32), (nbI tp sz vp vq vn vb ∧ vq ≤ sz ∧ vn ≤ 900) → sz - vq < j173 → V E Z 173 [(0, .ref k), (1, .int (nI (bN tp vp))), (2, .int (nI vn))] [] [ob k 8 [.int (nI th), .int (nI tr), .int wh, va_rf g, va_rf rr, .ref (q 5), .int (nI (z 6)), .int (nI sz), .int (nI vq), .int (nI 0), .int (nI vp), .int vb, .int (nI (z 12)), .int wa, .long wd, .ref (q 15), .ref (q 16), .ref (q 17), .ref (q 18), .int (nI (z 19)), .int (nI (z 20)), .ref (q 21), .long (lN ev), .ref (q 23), .ref (q 24), .int (nI (z 25)), .ref (q 26), .int al, .long wl, .int (nI (z 29))], aB E (q 5) 900 tp] 0 0 := by
                    intro j173
                    induction j173 with
                    | zero => intro vq vn vb hI hM; exact absurd hM (Nat.not_lt_zero _)
                    | succ j173 ih173 =>
                      intro vq vn vb hI173 hM173
                      obtain ⟨hI, hvq, hvn⟩ := id hI173
                      refine v_aload_n X dX8_goesOn_173 rfl 0 rfl ?_
                      refine v_aload_n X dX8_goesOn_174 rfl 0 rfl ?_
                      refine v_get X kcX8 fl_X8_78 dX8_goesOn_175 0 rfl rfl ?_
                      refine v_roI1 X (rn_V X k_X8_byteAt ml_X8_81 dX8_goesOn_178 (c_X8_byteAt l E k th tr wh g rr q (upN (upN (upN z 8 vq) 9 0) 10 vp) vb wa wd ev al wl sz tp vq (by first | assumption | omega) (by omega) (by first | assumption | omega)) rfl 0 rfl rfl (by decide) (by decide) (by omega) (by omega) (Nat.le_of_ble_eq_true rfl)) [0, 1] rfl rfl ?_
                      rcases Nat.lt_or_ge vq sz with hlvq | hlvq
                      · have hbvq : bN tp vq < 256 := (bN_b hby vq).1
                        refine v_eqi (x' := nI (bN tp vq)) (if_pos hlvq) ?_
                        refine v_roI1 X (rn_S X k_X8_isDigit ml_X8_95 dX8_goesOn_181 (c_X8_isDigit l E (nI (bN tp vq)) ) rfl (by decide) (by decide) (by omega) (by omega) (Nat.le_of_ble_eq_true rfl)) [] rfl rfl ?_
                        refine v_ifB_eq X dX8_goesOn_184 (tgt := 231) (by decide) (fun h184 => ?_) (fun h184 => ?_)
                        · refine v_iload_n X dX8_goesOn_231 rfl 2 rfl ?_
                          refine v_iconst X dX8_goesOn_232 (v := nI 3) (by decide) ?_
                          refine v_icmpN_gt X dX8_goesOn_233 (tgt := 276) (by decide) (by omega) (by decide) (fun h233 => ?_) (fun h233 => ?_)
                          · exact v_vret X Y dX8_goesOn_276 ⟨0, vp, vq, wd, vb, (t8_db hby (hq.trans (spc_no hlvp (fun z => h19 ((b_32 hby vp).mp z)))) hlvp (fun z => of_decide_eq_false h76 ((az_d hbvp).mpr z)) (((dg_d hbvp).mp (of_decide_eq_true h165))) hI (Or.inr (fun z => of_decide_eq_false h184 ((dg_d hbvq).mpr z))) (by omega)), (by have := hI.1; omega), (by omega), rfl, rfl⟩ (by omega) (by omega)
                          · refine v_aload_n X dX8_goesOn_236 rfl 0 rfl ?_
                            refine v_iconst X dX8_goesOn_237 (v := nI 3) (by decide) ?_
                            refine v_put X kcX8 fl_X8_75 dX8_goesOn_238 0 rfl (ws' := [ob k 8 [.int (nI th), .int (nI tr), .int wh, va_rf g, va_rf rr, .ref (q 5), .int (nI (z 6)), .int (nI sz), .int (nI vq), .int (nI 3), .int (nI vp), .int vb, .int (nI (z 12)), .int wa, .long wd, .ref (q 15), .ref (q 16), .ref (q 17), .ref (q 18), .int (nI (z 19)), .int (nI (z 20)), .ref (q 21), .long (lN ev), .ref (q 23), .ref (q 24), .int (nI (z 25)), .ref (q 26), .int al, .long wl, .int (nI (z 29))], aB E (q 5) 900 tp]) rfl rfl ?_
                            refine v_goto X dX8_goesOn_241 (tgt := 276) (by decide) ?_
                            exact v_vret X Y dX8_goesOn_276 ⟨3, vp, vq, wd, vb, (t8_d hby (hq.trans (spc_no hlvp (fun z => h19 ((b_32 hby vp).mp z)))) hlvp (fun z => of_decide_eq_false h76 ((az_d hbvp).mpr z)) (((dg_d hbvp).mp (of_decide_eq_true h165))) hI (Or.inr (fun z => of_decide_eq_false h184 ((dg_d hbvq).mpr z))) (by omega)), (by have := hI.1; omega), (by omega), rfl, rfl⟩ (by omega) (by omega)
                        · refine v_iload_n X dX8_goesOn_187 rfl 2 rfl ?_
                          refine v_iconst X dX8_goesOn_188 (v := nI 3) (by decide) ?_
                          refine v_icmpN_ge X dX8_goesOn_189 (tgt := 215) (by decide) (by omega) (by decide) (fun h189 => ?_) (fun h189 => ?_)
                          · refine v_iinc X dX8_goesOn_215 2 rfl (v := nI (vn + 1)) (nI_inc vn) (by decide) (lv' := [(2, .int (nI (vn + 1))), (0, .ref k), (1, .int (nI (bN tp vp)))]) rfl ?_
                            refine v_aload_n X dX8_goesOn_218 rfl 1 rfl ?_
                            refine v_dup X dX8_goesOn_219 rfl ?_
                            refine v_get X kcX8 fl_X8_78 dX8_goesOn_220 0 rfl rfl ?_
                            refine v_iconst X dX8_goesOn_223 (v := nI 1) (by decide) ?_
                            refine v_iadd X dX8_goesOn_224 ?_
                            refine v_eqi (x' := nI (vq + 1)) (nI_add _ _) ?_
                            refine v_put X kcX8 fl_X8_78 dX8_goesOn_225 0 rfl (ws' := [ob k 8 [.int (nI th), .int (nI tr), .int wh, va_rf g, va_rf rr, .ref (q 5), .int (nI (z 6)), .int (nI sz), .int (nI (vq + 1)), .int (nI 0), .int (nI vp), .int vb, .int (nI (z 12)), .int wa, .long wd, .ref (q 15), .ref (q 16), .ref (q 17), .ref (q 18), .int (nI (z 19)), .int (nI (z 20)), .ref (q 21), .long (lN ev), .ref (q 23), .ref (q 24), .int (nI (z 25)), .ref (q 26), .int al, .long wl, .int (nI (z 29))], aB E (q 5) 900 tp]) rfl rfl ?_
                            refine v_goto X dX8_goesOn_228 (tgt := 173) (by decide) ?_
                            refine V.lvs [1, 2, 0] rfl ?_
                            exact ih173 (vq + 1) (vn + 1) vb (⟨nb_s3 hby hI hlvq ((dg_d hbvq).mp (of_decide_eq_true h184)) (by omega), by omega, by have h1 := hI.2.2.1; have h2 := hI.1; omega⟩) (by omega)
                          · refine v_aload_n X dX8_goesOn_192 rfl 0 rfl ?_
                            refine v_bipush X dX8_goesOn_193 (v := nI 10) (by decide) ?_
                            refine v_aload_n X dX8_goesOn_195 rfl 0 rfl ?_
                            refine v_get X kcX8 fl_X8_98 dX8_goesOn_196 0 rfl rfl ?_
                            refine v_imul X dX8_goesOn_199 ?_
                            refine v_aload_n X dX8_goesOn_200 rfl 0 rfl ?_
                            refine v_aload_n X dX8_goesOn_201 rfl 0 rfl ?_
                            refine v_get X kcX8 fl_X8_78 dX8_goesOn_202 0 rfl rfl ?_
                            refine v_roI1 X (rn_V X k_X8_byteAt ml_X8_81 dX8_goesOn_205 (c_X8_byteAt l E k th tr wh g rr q (upN (upN (upN z 8 vq) 9 0) 10 vp) vb wa wd ev al wl sz tp vq (by first | assumption | omega) (by omega) (by first | assumption | omega)) rfl 0 rfl rfl (by decide) (by decide) (by omega) (by omega) (Nat.le_of_ble_eq_true rfl)) [0, 1] rfl rfl ?_
                            refine v_eqi (x' := nI (bN tp vq)) (if_pos hlvq) ?_
                            refine v_iadd X dX8_goesOn_208 ?_
                            refine v_bipush X dX8_goesOn_209 (v := nI 48) (by decide) ?_
                            refine v_isub X dX8_goesOn_211 ?_
                            refine v_put X kcX8 fl_X8_98 dX8_goesOn_212 0 rfl (ws' := [ob k 8 [.int (nI th), .int (nI tr), .int wh, va_rf g, va_rf rr, .ref (q 5), .int (nI (z 6)), .int (nI sz), .int (nI vq), .int (nI 0), .int (nI vp), .int ((((nI 10) * vb) + (nI (bN tp vq))) - (nI 48)), .int (nI (z 12)), .int wa, .long wd, .ref (q 15), .ref (q 16), .ref (q 17), .ref (q 18), .int (nI (z 19)), .int (nI (z 20)), .ref (q 21), .long (lN ev), .ref (q 23), .ref (q 24), .int (nI (z 25)), .ref (q 26), .int al, .long wl, .int (nI (z 29))], aB E (q 5) 900 tp]) rfl rfl ?_
                            refine v_iinc X dX8_goesOn_215 2 rfl (v := nI (vn + 1)) (nI_inc vn) (by decide) (lv' := [(2, .int (nI (vn + 1))), (0, .ref k), (1, .int (nI (bN tp vp)))]) rfl ?_
                            refine v_aload_n X dX8_goesOn_218 rfl 1 rfl ?_
                            refine v_dup X dX8_goesOn_219 rfl ?_
                            refine v_get X kcX8 fl_X8_78 dX8_goesOn_220 0 rfl rfl ?_
                            refine v_iconst X dX8_goesOn_223 (v := nI 1) (by decide) ?_
                            refine v_iadd X dX8_goesOn_224 ?_
                            refine v_eqi (x' := nI (vq + 1)) (nI_add _ _) ?_
                            refine v_put X kcX8 fl_X8_78 dX8_goesOn_225 0 rfl (ws' := [ob k 8 [.int (nI th), .int (nI tr), .int wh, va_rf g, va_rf rr, .ref (q 5), .int (nI (z 6)), .int (nI sz), .int (nI (vq + 1)), .int (nI 0), .int (nI vp), .int ((((nI 10) * vb) + (nI (bN tp vq))) - (nI 48)), .int (nI (z 12)), .int wa, .long wd, .ref (q 15), .ref (q 16), .ref (q 17), .ref (q 18), .int (nI (z 19)), .int (nI (z 20)), .ref (q 21), .long (lN ev), .ref (q 23), .ref (q 24), .int (nI (z 25)), .ref (q 26), .int al, .long wl, .int (nI (z 29))], aB E (q 5) 900 tp]) rfl rfl ?_
                            refine v_goto X dX8_goesOn_228 (tgt := 173) (by decide) ?_
                            refine V.lvs [1, 2, 0] rfl ?_
                            exact ih173 (vq + 1) (vn + 1) ((((nI 10) * vb) + (nI (bN tp vq))) - (nI 48)) (⟨nb_s hby hI hlvq ((dg_d hbvq).mp (of_decide_eq_true h184)) (by omega), by omega, by have h1 := hI.2.2.1; have h2 := hI.1; omega⟩) (by omega)
                      · refine v_eqi (x' := (-1)) (if_neg (Nat.not_lt.mpr hlvq)) ?_
                        refine v_roI1 X (rn_S X k_X8_isDigit ml_X8_95 dX8_goesOn_181 (c_X8_isDigit l E (-1) ) rfl (by decide) (by decide) (by omega) (by omega) (Nat.le_of_ble_eq_true rfl)) [] rfl rfl ?_
                        refine v_ifB_eq X dX8_goesOn_184 (tgt := 231) (by decide) (fun h184 => ?_) (fun h184 => ?_)
                        · refine v_iload_n X dX8_goesOn_231 rfl 2 rfl ?_
                          refine v_iconst X dX8_goesOn_232 (v := nI 3) (by decide) ?_
                          refine v_icmpN_gt X dX8_goesOn_233 (tgt := 276) (by decide) (by omega) (by decide) (fun h233 => ?_) (fun h233 => ?_)
                          · exact v_vret X Y dX8_goesOn_276 ⟨0, vp, vq, wd, vb, (t8_db hby (hq.trans (spc_no hlvp (fun z => h19 ((b_32 hby vp).mp z)))) hlvp (fun z => of_decide_eq_false h76 ((az_d hbvp).mpr z)) (((dg_d hbvp).mp (of_decide_eq_true h165))) hI (Or.inl hlvq) (by omega)), (by have := hI.1; omega), (by omega), rfl, rfl⟩ (by omega) (by omega)
                          · refine v_aload_n X dX8_goesOn_236 rfl 0 rfl ?_
                            refine v_iconst X dX8_goesOn_237 (v := nI 3) (by decide) ?_
                            refine v_put X kcX8 fl_X8_75 dX8_goesOn_238 0 rfl (ws' := [ob k 8 [.int (nI th), .int (nI tr), .int wh, va_rf g, va_rf rr, .ref (q 5), .int (nI (z 6)), .int (nI sz), .int (nI vq), .int (nI 3), .int (nI vp), .int vb, .int (nI (z 12)), .int wa, .long wd, .ref (q 15), .ref (q 16), .ref (q 17), .ref (q 18), .int (nI (z 19)), .int (nI (z 20)), .ref (q 21), .long (lN ev), .ref (q 23), .ref (q 24), .int (nI (z 25)), .ref (q 26), .int al, .long wl, .int (nI (z 29))], aB E (q 5) 900 tp]) rfl rfl ?_
                            refine v_goto X dX8_goesOn_241 (tgt := 276) (by decide) ?_
                            exact v_vret X Y dX8_goesOn_276 ⟨3, vp, vq, wd, vb, (t8_d hby (hq.trans (spc_no hlvp (fun z => h19 ((b_32 hby vp).mp z)))) hlvp (fun z => of_decide_eq_false h76 ((az_d hbvp).mpr z)) (((dg_d hbvp).mp (of_decide_eq_true h165))) hI (Or.inl hlvq) (by omega)), (by have := hI.1; omega), (by omega), rfl, rfl⟩ (by omega) (by omega)
                        · exact absurd (of_decide_eq_true h184) (by decide)
                  refine V.lvs [2, 1, 0] rfl ?_
                  exact L173 _ vp 0 (nI 0) (⟨nb_0 (by omega), by omega, by omega⟩) (Nat.lt_succ_self _)
              · refine v_aload_n X dX8_goesOn_79 rfl 2 rfl ?_
                refine v_lconst X dX8_goesOn_80 (v := lN 0) (by decide) ?_
                refine v_put X kcX8 fl_X8_91 dX8_goesOn_81 0 rfl (ws' := [ob k 8 [.int (nI th), .int (nI tr), .int wh, va_rf g, va_rf rr, .ref (q 5), .int (nI (z 6)), .int (nI sz), .int (nI vp), .int (nI 0), .int (nI vp), .int nb, .int (nI (z 12)), .int wa, .long (lN 0), .ref (q 15), .ref (q 16), .ref (q 17), .ref (q 18), .int (nI (z 19)), .int (nI (z 20)), .ref (q 21), .long (lN ev), .ref (q 23), .ref (q 24), .int (nI (z 25)), .ref (q 26), .int al, .long wl, .int (nI (z 29))], aB E (q 5) 900 tp]) rfl rfl ?_
                have L84 : ∀ (j84 : Nat) (vq : Nat) (vn : Nat) (vw : Int64), (wdI tp sz vp vq vn vw ∧ vq ≤ sz ∧ vn ≤ 900) → sz - vq < j84 → V E Z 84 [(0, .ref k), (1, .int (nI (bN tp vp))), (2, .int (nI vn))] [] [ob k 8 [.int (nI th), .int (nI tr), .int wh, va_rf g, va_rf rr, .ref (q 5), .int (nI (z 6)), .int (nI sz), .int (nI vq), .int (nI 0), .int (nI vp), .int nb, .int (nI (z 12)), .int wa, .long vw, .ref (q 15), .ref (q 16), .ref (q 17), .ref (q 18), .int (nI (z 19)), .int (nI (z 20)), .ref (q 21), .long (lN ev), .ref (q 23), .ref (q 24), .int (nI (z 25)), .ref (q 26), .int al, .long wl, .int (nI (z 29))], aB E (q 5) 900 tp] 0 0 := by
                  intro j84
                  induction j84 with
                  | zero => intro vq vn vw hI hM; exact absurd hM (Nat.not_lt_zero _)
                  | succ j84 ih84 =>
                    intro vq vn vw hI84 hM84
                    obtain ⟨hI, hvq, hvn⟩ := id hI84
                    refine v_aload_n X dX8_goesOn_84 rfl 0 rfl ?_
                    refine v_aload_n X dX8_goesOn_85 rfl 0 rfl ?_
                    refine v_get X kcX8 fl_X8_78 dX8_goesOn_86 0 rfl rfl ?_
                    refine v_roI1 X (rn_V X k_X8_byteAt ml_X8_81 dX8_goesOn_89 (c_X8_byteAt l E k th tr wh g rr q (upN (upN (upN z 8 vq) 9 0) 10 vp) nb wa vw ev al wl sz tp vq (by first | assumption | omega) (by omega) (by first | assumption | omega)) rfl 0 rfl rfl (by decide) (by decide) (by omega) (by omega) (Nat.le_of_ble_eq_true rfl)) [0, 1] rfl rfl ?_
                    rcases Nat.lt_or_ge vq sz with hlvq | hlvq
                    · have hbvq : bN tp vq < 256 := (bN_b hby vq).1
                      refine v_eqi (x' := nI (bN tp vq)) (if_pos hlvq) ?_
                      refine v_roI1 X (rn_S X k_X8_isLetter ml_X8_87 dX8_goesOn_92 (c_X8_isLetter l E (nI (bN tp vq)) ) rfl (by decide) (by decide) (by omega) (by omega) (Nat.le_of_ble_eq_true rfl)) [] rfl rfl ?_
                      refine v_ifB_eq X dX8_goesOn_95 (tgt := 147) (by decide) (fun h95 => ?_) (fun h95 => ?_)
                      · refine v_iload_n X dX8_goesOn_147 rfl 2 rfl ?_
                        refine v_bipush X dX8_goesOn_148 (v := nI 8) (by decide) ?_
                        refine v_icmpN_gt X dX8_goesOn_150 (tgt := 276) (by decide) (by omega) (by decide) (fun h150 => ?_) (fun h150 => ?_)
                        · exact v_vret X Y dX8_goesOn_276 ⟨0, vp, vq, vw, nb, (t8_wb hby (hq.trans (spc_no hlvp (fun z => h19 ((b_32 hby vp).mp z)))) hlvp (((az_d hbvp).mp (of_decide_eq_true h76))) hI (Or.inr (fun z => of_decide_eq_false h95 ((az_d hbvq).mpr z))) (by omega)), (by have := hI.1; omega), (by omega), rfl, rfl⟩ (by omega) (by omega)
                        · refine v_aload_n X dX8_goesOn_153 rfl 0 rfl ?_
                          refine v_iconst X dX8_goesOn_154 (v := nI 2) (by decide) ?_
                          refine v_put X kcX8 fl_X8_75 dX8_goesOn_155 0 rfl (ws' := [ob k 8 [.int (nI th), .int (nI tr), .int wh, va_rf g, va_rf rr, .ref (q 5), .int (nI (z 6)), .int (nI sz), .int (nI vq), .int (nI 2), .int (nI vp), .int nb, .int (nI (z 12)), .int wa, .long vw, .ref (q 15), .ref (q 16), .ref (q 17), .ref (q 18), .int (nI (z 19)), .int (nI (z 20)), .ref (q 21), .long (lN ev), .ref (q 23), .ref (q 24), .int (nI (z 25)), .ref (q 26), .int al, .long wl, .int (nI (z 29))], aB E (q 5) 900 tp]) rfl rfl ?_
                          refine v_goto X dX8_goesOn_158 (tgt := 276) (by decide) ?_
                          exact v_vret X Y dX8_goesOn_276 ⟨2, vp, vq, vw, nb, (t8_w hby (hq.trans (spc_no hlvp (fun z => h19 ((b_32 hby vp).mp z)))) hlvp (((az_d hbvp).mp (of_decide_eq_true h76))) hI (Or.inr (fun z => of_decide_eq_false h95 ((az_d hbvq).mpr z))) (by omega)), (by have := hI.1; omega), (by omega), rfl, rfl⟩ (by omega) (by omega)
                      · refine v_iload_n X dX8_goesOn_98 rfl 2 rfl ?_
                        refine v_bipush X dX8_goesOn_99 (v := nI 8) (by decide) ?_
                        refine v_icmpN_ge X dX8_goesOn_101 (tgt := 131) (by decide) (by omega) (by decide) (fun h101 => ?_) (fun h101 => ?_)
                        · refine v_iinc X dX8_goesOn_131 2 rfl (v := nI (vn + 1)) (nI_inc vn) (by decide) (lv' := [(2, .int (nI (vn + 1))), (0, .ref k), (1, .int (nI (bN tp vp)))]) rfl ?_
                          refine v_aload_n X dX8_goesOn_134 rfl 1 rfl ?_
                          refine v_dup X dX8_goesOn_135 rfl ?_
                          refine v_get X kcX8 fl_X8_78 dX8_goesOn_136 0 rfl rfl ?_
                          refine v_iconst X dX8_goesOn_139 (v := nI 1) (by decide) ?_
                          refine v_iadd X dX8_goesOn_140 ?_
                          refine v_eqi (x' := nI (vq + 1)) (nI_add _ _) ?_
                          refine v_put X kcX8 fl_X8_78 dX8_goesOn_141 0 rfl (ws' := [ob k 8 [.int (nI th), .int (nI tr), .int wh, va_rf g, va_rf rr, .ref (q 5), .int (nI (z 6)), .int (nI sz), .int (nI (vq + 1)), .int (nI 0), .int (nI vp), .int nb, .int (nI (z 12)), .int wa, .long vw, .ref (q 15), .ref (q 16), .ref (q 17), .ref (q 18), .int (nI (z 19)), .int (nI (z 20)), .ref (q 21), .long (lN ev), .ref (q 23), .ref (q 24), .int (nI (z 25)), .ref (q 26), .int al, .long wl, .int (nI (z 29))], aB E (q 5) 900 tp]) rfl rfl ?_
                          refine v_goto X dX8_goesOn_144 (tgt := 84) (by decide) ?_
                          refine V.lvs [1, 2, 0] rfl ?_
                          exact ih84 (vq + 1) (vn + 1) vw (⟨wd_s8 hby hI hlvq ((az_d hbvq).mp (of_decide_eq_true h95)) (by omega), by omega, by have h1 := hI.2.2.1; have h2 := hI.1; omega⟩) (by omega)
                        · refine v_aload_n X dX8_goesOn_104 rfl 0 rfl ?_
                          refine v_ldc2 X dX8_goesOn_105 cs_X8_69 ?_
                          refine v_eql (x' := lN 32) rfl ?_
                          refine v_aload_n X dX8_goesOn_108 rfl 0 rfl ?_
                          refine v_get X kcX8 fl_X8_91 dX8_goesOn_109 0 rfl rfl ?_
                          refine v_lmul X dX8_goesOn_112 ?_
                          refine v_aload_n X dX8_goesOn_113 rfl 0 rfl ?_
                          refine v_aload_n X dX8_goesOn_114 rfl 0 rfl ?_
                          refine v_get X kcX8 fl_X8_78 dX8_goesOn_115 0 rfl rfl ?_
                          refine v_roI1 X (rn_V X k_X8_byteAt ml_X8_81 dX8_goesOn_118 (c_X8_byteAt l E k th tr wh g rr q (upN (upN (upN z 8 vq) 9 0) 10 vp) nb wa vw ev al wl sz tp vq (by first | assumption | omega) (by omega) (by first | assumption | omega)) rfl 0 rfl rfl (by decide) (by decide) (by omega) (by omega) (Nat.le_of_ble_eq_true rfl)) [0, 1] rfl rfl ?_
                          refine v_eqi (x' := nI (bN tp vq)) (if_pos hlvq) ?_
                          refine v_bipush X dX8_goesOn_121 (v := nI 97) (by decide) ?_
                          refine v_isub X dX8_goesOn_123 ?_
                          refine v_eqi (x' := nI (bN tp vq - 97)) (pk_sub (((az_d hbvq).mp (of_decide_eq_true h95)).1)) ?_
                          refine v_iconst X dX8_goesOn_124 (v := nI 1) (by decide) ?_
                          refine v_iadd X dX8_goesOn_125 ?_
                          refine v_eqi (x' := nI (bN tp vq - 97 + 1)) (nI_add _ _) ?_
                          refine v_i2l X dX8_goesOn_126 (v := lN (bN tp vq - 97 + 1)) (nI_l (by omega)) ?_
                          refine v_ladd X dX8_goesOn_127 ?_
                          refine v_put X kcX8 fl_X8_91 dX8_goesOn_128 0 rfl (ws' := [ob k 8 [.int (nI th), .int (nI tr), .int wh, va_rf g, va_rf rr, .ref (q 5), .int (nI (z 6)), .int (nI sz), .int (nI vq), .int (nI 0), .int (nI vp), .int nb, .int (nI (z 12)), .int wa, .long (((lN 32) * vw) + (lN (bN tp vq - 97 + 1))), .ref (q 15), .ref (q 16), .ref (q 17), .ref (q 18), .int (nI (z 19)), .int (nI (z 20)), .ref (q 21), .long (lN ev), .ref (q 23), .ref (q 24), .int (nI (z 25)), .ref (q 26), .int al, .long wl, .int (nI (z 29))], aB E (q 5) 900 tp]) rfl rfl ?_
                          refine v_iinc X dX8_goesOn_131 2 rfl (v := nI (vn + 1)) (nI_inc vn) (by decide) (lv' := [(2, .int (nI (vn + 1))), (0, .ref k), (1, .int (nI (bN tp vp)))]) rfl ?_
                          refine v_aload_n X dX8_goesOn_134 rfl 1 rfl ?_
                          refine v_dup X dX8_goesOn_135 rfl ?_
                          refine v_get X kcX8 fl_X8_78 dX8_goesOn_136 0 rfl rfl ?_
                          refine v_iconst X dX8_goesOn_139 (v := nI 1) (by decide) ?_
                          refine v_iadd X dX8_goesOn_140 ?_
                          refine v_eqi (x' := nI (vq + 1)) (nI_add _ _) ?_
                          refine v_put X kcX8 fl_X8_78 dX8_goesOn_141 0 rfl (ws' := [ob k 8 [.int (nI th), .int (nI tr), .int wh, va_rf g, va_rf rr, .ref (q 5), .int (nI (z 6)), .int (nI sz), .int (nI (vq + 1)), .int (nI 0), .int (nI vp), .int nb, .int (nI (z 12)), .int wa, .long (((lN 32) * vw) + (lN (bN tp vq - 97 + 1))), .ref (q 15), .ref (q 16), .ref (q 17), .ref (q 18), .int (nI (z 19)), .int (nI (z 20)), .ref (q 21), .long (lN ev), .ref (q 23), .ref (q 24), .int (nI (z 25)), .ref (q 26), .int al, .long wl, .int (nI (z 29))], aB E (q 5) 900 tp]) rfl rfl ?_
                          refine v_goto X dX8_goesOn_144 (tgt := 84) (by decide) ?_
                          refine V.lvs [1, 2, 0] rfl ?_
                          exact ih84 (vq + 1) (vn + 1) (((lN 32) * vw) + (lN (bN tp vq - 97 + 1))) (⟨wd_s hby hI hlvq ((az_d hbvq).mp (of_decide_eq_true h95)) (by omega), by omega, by have h1 := hI.2.2.1; have h2 := hI.1; omega⟩) (by omega)
                    · refine v_eqi (x' := (-1)) (if_neg (Nat.not_lt.mpr hlvq)) ?_
                      refine v_roI1 X (rn_S X k_X8_isLetter ml_X8_87 dX8_goesOn_92 (c_X8_isLetter l E (-1) ) rfl (by decide) (by decide) (by omega) (by omega) (Nat.le_of_ble_eq_true rfl)) [] rfl rfl ?_
                      refine v_ifB_eq X dX8_goesOn_95 (tgt := 147) (by decide) (fun h95 => ?_) (fun h95 => ?_)
                      · refine v_iload_n X dX8_goesOn_147 rfl 2 rfl ?_
                        refine v_bipush X dX8_goesOn_148 (v := nI 8) (by decide) ?_
                        refine v_icmpN_gt X dX8_goesOn_150 (tgt := 276) (by decide) (by omega) (by decide) (fun h150 => ?_) (fun h150 => ?_)
                        · exact v_vret X Y dX8_goesOn_276 ⟨0, vp, vq, vw, nb, (t8_wb hby (hq.trans (spc_no hlvp (fun z => h19 ((b_32 hby vp).mp z)))) hlvp (((az_d hbvp).mp (of_decide_eq_true h76))) hI (Or.inl hlvq) (by omega)), (by have := hI.1; omega), (by omega), rfl, rfl⟩ (by omega) (by omega)
                        · refine v_aload_n X dX8_goesOn_153 rfl 0 rfl ?_
                          refine v_iconst X dX8_goesOn_154 (v := nI 2) (by decide) ?_
                          refine v_put X kcX8 fl_X8_75 dX8_goesOn_155 0 rfl (ws' := [ob k 8 [.int (nI th), .int (nI tr), .int wh, va_rf g, va_rf rr, .ref (q 5), .int (nI (z 6)), .int (nI sz), .int (nI vq), .int (nI 2), .int (nI vp), .int nb, .int (nI (z 12)), .int wa, .long vw, .ref (q 15), .ref (q 16), .ref (q 17), .ref (q 18), .int (nI (z 19)), .int (nI (z 20)), .ref (q 21), .long (lN ev), .ref (q 23), .ref (q 24), .int (nI (z 25)), .ref (q 26), .int al, .long wl, .int (nI (z 29))], aB E (q 5) 900 tp]) rfl rfl ?_
                          refine v_goto X dX8_goesOn_158 (tgt := 276) (by decide) ?_
                          exact v_vret X Y dX8_goesOn_276 ⟨2, vp, vq, vw, nb, (t8_w hby (hq.trans (spc_no hlvp (fun z => h19 ((b_32 hby vp).mp z)))) hlvp (((az_d hbvp).mp (of_decide_eq_true h76))) hI (Or.inl hlvq) (by omega)), (by have := hI.1; omega), (by omega), rfl, rfl⟩ (by omega) (by omega)
                      · exact absurd (of_decide_eq_true h95) (by decide)
                refine V.lvs [2, 1, 0] rfl ?_
                exact L84 _ vp 0 (lN 0) (⟨wd_0 (by omega), by omega, by omega⟩) (Nat.lt_succ_self _)
            · exact (nm1 h61 (by omega)).elim
          · refine v_aload_n X dX8_goesOn_22 rfl 0 rfl ?_
            refine v_dup X dX8_goesOn_23 rfl ?_
            refine v_get X kcX8 fl_X8_78 dX8_goesOn_24 0 rfl rfl ?_
            refine v_iconst X dX8_goesOn_27 (v := nI 1) (by decide) ?_
            refine v_iadd X dX8_goesOn_28 ?_
            refine v_eqi (x' := nI (vp + 1)) (nI_add _ _) ?_
            refine v_put X kcX8 fl_X8_78 dX8_goesOn_29 0 rfl (ws' := [ob k 8 [.int (nI th), .int (nI tr), .int wh, va_rf g, va_rf rr, .ref (q 5), .int (nI (z 6)), .int (nI sz), .int (nI (vp + 1)), .int (nI so), .int (nI pl), .int nb, .int (nI (z 12)), .int wa, .long wd, .ref (q 15), .ref (q 16), .ref (q 17), .ref (q 18), .int (nI (z 19)), .int (nI (z 20)), .ref (q 21), .long (lN ev), .ref (q 23), .ref (q 24), .int (nI (z 25)), .ref (q 26), .int al, .long wl, .int (nI (z 29))], aB E (q 5) 900 tp]) rfl rfl ?_
            refine v_goto X dX8_goesOn_32 (tgt := 9) (by decide) ?_
            refine V.lvs [0] rfl ?_
            exact ih9 (vp + 1) (⟨by omega, hq.trans (spc_go hlvp ((b_32 hby vp).mpr h19))⟩) (by omega)
        · refine v_eqi (x' := (-1)) (if_neg (Nat.not_lt.mpr hlvp)) ?_
          refine v_bipush X dX8_goesOn_17 (v := nI 32) (by decide) ?_
          refine v_icmp_ne X dX8_goesOn_19 (tgt := 35) (by decide) (fun h19 => ?_) (fun h19 => ?_)
          · refine v_aload_n X dX8_goesOn_35 rfl 0 rfl ?_
            refine v_aload_n X dX8_goesOn_36 rfl 0 rfl ?_
            refine v_get X kcX8 fl_X8_78 dX8_goesOn_37 0 rfl rfl ?_
            refine v_put X kcX8 fl_X8_84 dX8_goesOn_40 0 rfl (ws' := [ob k 8 [.int (nI th), .int (nI tr), .int wh, va_rf g, va_rf rr, .ref (q 5), .int (nI (z 6)), .int (nI sz), .int (nI vp), .int (nI so), .int (nI vp), .int nb, .int (nI (z 12)), .int wa, .long wd, .ref (q 15), .ref (q 16), .ref (q 17), .ref (q 18), .int (nI (z 19)), .int (nI (z 20)), .ref (q 21), .long (lN ev), .ref (q 23), .ref (q 24), .int (nI (z 25)), .ref (q 26), .int al, .long wl, .int (nI (z 29))], aB E (q 5) 900 tp]) rfl rfl ?_
            refine v_aload_n X dX8_goesOn_43 rfl 0 rfl ?_
            refine v_iconst X dX8_goesOn_44 (v := nI 0) (by decide) ?_
            refine v_put X kcX8 fl_X8_75 dX8_goesOn_45 0 rfl (ws' := [ob k 8 [.int (nI th), .int (nI tr), .int wh, va_rf g, va_rf rr, .ref (q 5), .int (nI (z 6)), .int (nI sz), .int (nI vp), .int (nI 0), .int (nI vp), .int nb, .int (nI (z 12)), .int wa, .long wd, .ref (q 15), .ref (q 16), .ref (q 17), .ref (q 18), .int (nI (z 19)), .int (nI (z 20)), .ref (q 21), .long (lN ev), .ref (q 23), .ref (q 24), .int (nI (z 25)), .ref (q 26), .int al, .long wl, .int (nI (z 29))], aB E (q 5) 900 tp]) rfl rfl ?_
            refine v_aload_n X dX8_goesOn_48 rfl 0 rfl ?_
            refine v_aload_n X dX8_goesOn_49 rfl 0 rfl ?_
            refine v_get X kcX8 fl_X8_78 dX8_goesOn_50 0 rfl rfl ?_
            refine v_roI1 X (rn_V X k_X8_byteAt ml_X8_81 dX8_goesOn_53 (c_X8_byteAt l E k th tr wh g rr q (upN (upN (upN z 8 vp) 9 0) 10 vp) nb wa wd ev al wl sz tp vp (by first | assumption | omega) (by omega) (by first | assumption | omega)) rfl 0 rfl rfl (by decide) (by decide) (by omega) (by omega) (Nat.le_of_ble_eq_true rfl)) [0, 1] rfl rfl ?_
            refine v_eqi (x' := (-1)) (if_neg (Nat.not_lt.mpr hlvp)) ?_
            refine v_istore_n X dX8_goesOn_56 rfl (by decide) (lv' := [(1, .int (-1)), (0, .ref k)]) rfl ?_
            refine v_iconst X dX8_goesOn_57 (v := nI 0) (by decide) ?_
            refine v_istore_n X dX8_goesOn_58 rfl (by decide) (lv' := [(2, .int (nI 0)), (1, .int (-1)), (0, .ref k)]) rfl ?_
            refine v_iload_n X dX8_goesOn_59 rfl 1 rfl ?_
            refine v_iconst X dX8_goesOn_60 (v := (-1)) (by decide) ?_
            refine v_icmp_ne X dX8_goesOn_61 (tgt := 72) (by decide) (fun h61 => ?_) (fun h61 => ?_)
            · exact absurd rfl h61
            · refine v_aload_n X dX8_goesOn_64 rfl 2 rfl ?_
              refine v_iconst X dX8_goesOn_65 (v := nI 1) (by decide) ?_
              refine v_put X kcX8 fl_X8_75 dX8_goesOn_66 0 rfl (ws' := [ob k 8 [.int (nI th), .int (nI tr), .int wh, va_rf g, va_rf rr, .ref (q 5), .int (nI (z 6)), .int (nI sz), .int (nI vp), .int (nI 1), .int (nI vp), .int nb, .int (nI (z 12)), .int wa, .long wd, .ref (q 15), .ref (q 16), .ref (q 17), .ref (q 18), .int (nI (z 19)), .int (nI (z 20)), .ref (q 21), .long (lN ev), .ref (q 23), .ref (q 24), .int (nI (z 25)), .ref (q 26), .int al, .long wl, .int (nI (z 29))], aB E (q 5) 900 tp]) rfl rfl ?_
              refine v_goto X dX8_goesOn_69 (tgt := 276) (by decide) ?_
              exact v_vret X Y dX8_goesOn_276 ⟨1, vp, vp, wd, nb, (t8_end (hq.trans (spc_end hlvp)) hlvp), (by omega), (by omega), rfl, rfl⟩ (by omega) (by omega)
          · exact absurd h19 (by decide)
    refine V.lvs [0] rfl ?_
    exact L9 _ sp (⟨hsp, rfl⟩) (Nat.lt_succ_self _)
  · exfalso; omega
