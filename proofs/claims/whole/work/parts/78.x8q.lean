set_option maxRecDepth 100000 in
set_option maxHeartbeats 8000000 in
theorem c_X8_isSpread (l : Launch) (E : Et) (k : Nat) (th : Nat) (tr : Nat) (wh : Int32) (g : Nat) (rr : Option Nat) (q : Nat → Nat) (z : Nat → Nat) (nb : Int32) (wa : Int32) (wd : Int64) (al : Int32) (wl : Int64) (cy : Nat → Nat) (kp : Nat) (nc : Nat) (cb : Nat → Nat) (Fs : Nat → Nat) (Ft : Nat → Nat) (kf : Nat → Nat) (t : Nat) (gt : Nat → Int32) (hg : Nat → Nat) (B : Nat) (men : Nat) (hd : cy 4 ≤ 6) (hcl : cy 5 ≤ 8) (hB : B < 2 ^ cy 5) (hmen_ : men ≤ 8) : Ct l E yX8_isSpread cX8_isSpread 5 (some .boolean) 2 0 0 [.ref k, .int (nI B), .int (nI men)] [ob k 8 [.int (nI th), .int (nI tr), .int wh, .ref g, va_rf rr, .ref (q 5), .int (nI (z 6)), .int (nI (z 7)), .int (nI (z 8)), .int (nI (z 9)), .int (nI (z 10)), .int nb, .int (nI (z 12)), .int wa, .long wd, .ref (q 15), .ref (q 16), .ref (q 17), .ref (q 18), .int (nI (z 19)), .int (nI (z 20)), .ref (q 21), .long (lN (allS (cy 4))), .ref (q 23), .ref (q 24), .int (nI (z 25)), .ref (q 26), .int al, .long wl, .int (nI (z 29))], ob g 7 [.int (nI (cy 0)), .int (nI (cy 1)), .int (nI (cy 2)), .int (nI (cy 3)), .int (nI (cy 4)), .int (nI (cy 5)), .int (nI (cy 6)), .int (nI (cy 7)), .int (nI kp), .int (nI nc), .ref (cb 0), .ref (cb 1), .ref (cb 2), .ref (cb 3), .ref (cb 4), .ref (cb 5), .ref (cb 6), .ref (cb 7), .ref (cb 8), .ref (cb 9), .ref (cb 10), .ref (cb 11)], aM E (q 21) 8 (lyF Fs Ft t (cy 4) kf (cy 5)), aI E (q 23) 8 gt, aN E (q 24) 8 hg] (jwrI (fun jp : (Nat → Nat) => [ob k 8 [.int (nI th), .int (nI tr), .int wh, .ref g, va_rf rr, .ref (q 5), .int (nI (z 6)), .int (nI (z 7)), .int (nI (z 8)), .int (nI (z 9)), .int (nI (z 10)), .int nb, .int (nI (z 12)), .int wa, .long wd, .ref (q 15), .ref (q 16), .ref (q 17), .ref (q 18), .int (nI (z 19)), .int (nI (z 20)), .ref (q 21), .long (lN (allS (cy 4))), .ref (q 23), .ref (q 24), .int (nI (z 25)), .ref (q 26), .int al, .long wl, .int (nI (z 29))], ob g 7 [.int (nI (cy 0)), .int (nI (cy 1)), .int (nI (cy 2)), .int (nI (cy 3)), .int (nI (cy 4)), .int (nI (cy 5)), .int (nI (cy 6)), .int (nI (cy 7)), .int (nI kp), .int (nI nc), .ref (cb 0), .ref (cb 1), .ref (cb 2), .ref (cb 3), .ref (cb 4), .ref (cb 5), .ref (cb 6), .ref (cb 7), .ref (cb 8), .ref (cb 9), .ref (cb 10), .ref (cb 11)], aM E (q 21) 8 (lyF Fs Ft t (cy 4) kf (cy 5)), aI E (q 23) 8 (gI (spA (okS cy Fs Ft t) B men (cy 5))), aN E (q 24) 8 jp]) (nI (exB (okS cy Fs Ft t) B men (cy 5) 0 (fun _ => 0)).toNat)) := by
  refine Ct.intro (by decide +kernel) (Nat.le_of_ble_eq_true rfl) (lv := [(0, .ref k), (1, .int (nI B)), (2, .int (nI men))]) rfl ?_
  intro Z X Y
  have hp8 : 2 ^ cy 5 ≤ 256 := Nat.pow_le_pow_right (n := 2) (j := 8) (by decide) hcl
  have FIN : ∀ h : Nat → Nat, exB (okS cy Fs Ft t) B men (cy 5) 0 (fun _ => 0) = true → V E Z 34 [(0, .ref k), (1, .int (nI B)), (2, .int (nI men)), (3, .int (nI (cy 5)))] [] [ob k 8 [.int (nI th), .int (nI tr), .int wh, .ref g, va_rf rr, .ref (q 5), .int (nI (z 6)), .int (nI (z 7)), .int (nI (z 8)), .int (nI (z 9)), .int (nI (z 10)), .int nb, .int (nI (z 12)), .int wa, .long wd, .ref (q 15), .ref (q 16), .ref (q 17), .ref (q 18), .int (nI (z 19)), .int (nI (z 20)), .ref (q 21), .long (lN (allS (cy 4))), .ref (q 23), .ref (q 24), .int (nI (z 25)), .ref (q 26), .int al, .long wl, .int (nI (z 29))], ob g 7 [.int (nI (cy 0)), .int (nI (cy 1)), .int (nI (cy 2)), .int (nI (cy 3)), .int (nI (cy 4)), .int (nI (cy 5)), .int (nI (cy 6)), .int (nI (cy 7)), .int (nI kp), .int (nI nc), .ref (cb 0), .ref (cb 1), .ref (cb 2), .ref (cb 3), .ref (cb 4), .ref (cb 5), .ref (cb 6), .ref (cb 7), .ref (cb 8), .ref (cb 9), .ref (cb 10), .ref (cb 11)], aM E (q 21) 8 (lyF Fs Ft t (cy 4) kf (cy 5)), aI E (q 23) 8 (gI (grX (okS cy Fs Ft t) B men (cy 5) 0 (fun _ => 0) (fun _ => 0))), aN E (q 24) 8 h] 0 0 := by
    intro h hE
    refine v_iload_n X dX8_isSpread_34 rfl 3 rfl ?_
    refine v_if_lt X dX8_isSpread_35 (tgt := 210) (by decide) (fun h35 => ?_) (fun h35 => ?_)
    · exact absurd h35 (nI_pos (by omega))
    · refine v_iload_n X dX8_isSpread_38 rfl 3 rfl ?_
      refine v_aload_n X dX8_isSpread_39 rfl 0 rfl ?_
      refine v_get X kcX8 fl_X8_306 dX8_isSpread_40 0 rfl rfl ?_
      refine v_getN X kcX7 fl_X8_240 dX8_isSpread_43 1 rfl rfl ?_
      refine v_icmpN_ge X dX8_isSpread_46 (tgt := 210) (by decide) (by omega) (by omega) (fun h46 => ?_) (fun h46 => ?_)
      · refine v_iload_n X dX8_isSpread_210 rfl 3 rfl ?_
        refine v_if_lt X dX8_isSpread_211 (tgt := 218) (by decide) (fun h211 => ?_) (fun h211 => ?_)
        · exact absurd h211 (nI_pos (by omega))
        · refine v_iconst X dX8_isSpread_214 (v := nI 1) (by decide) ?_
          refine v_goto X dX8_isSpread_215 (tgt := 219) (by decide) ?_
          exact v_zret X Y dX8_isSpread_219 (by decide) (jwrI_of h (by rw [spA_t hE]) (by rw [hE]; rfl)) (by omega) (by omega)
      · exfalso; omega
  have BAD : ∀ h : Nat → Nat, exB (okS cy Fs Ft t) B men (cy 5) 0 (fun _ => 0) = false → V E Z 192 [(0, .ref k), (1, .int (nI B)), (2, .int (nI men)), (3, .int (nI 0 - 1))] [] [ob k 8 [.int (nI th), .int (nI tr), .int wh, .ref g, va_rf rr, .ref (q 5), .int (nI (z 6)), .int (nI (z 7)), .int (nI (z 8)), .int (nI (z 9)), .int (nI (z 10)), .int nb, .int (nI (z 12)), .int wa, .long wd, .ref (q 15), .ref (q 16), .ref (q 17), .ref (q 18), .int (nI (z 19)), .int (nI (z 20)), .ref (q 21), .long (lN (allS (cy 4))), .ref (q 23), .ref (q 24), .int (nI (z 25)), .ref (q 26), .int al, .long wl, .int (nI (z 29))], ob g 7 [.int (nI (cy 0)), .int (nI (cy 1)), .int (nI (cy 2)), .int (nI (cy 3)), .int (nI (cy 4)), .int (nI (cy 5)), .int (nI (cy 6)), .int (nI (cy 7)), .int (nI kp), .int (nI nc), .ref (cb 0), .ref (cb 1), .ref (cb 2), .ref (cb 3), .ref (cb 4), .ref (cb 5), .ref (cb 6), .ref (cb 7), .ref (cb 8), .ref (cb 9), .ref (cb 10), .ref (cb 11)], aM E (q 21) 8 (lyF Fs Ft t (cy 4) kf (cy 5)), aI E (q 23) 8 (gI (fun _ => 0)), aN E (q 24) 8 h] 0 0 := by
    intro h hE
    refine v_iload_n X dX8_isSpread_192 rfl 3 rfl ?_
    refine v_if_lt X dX8_isSpread_193 (tgt := 34) (by decide) (fun h193 => ?_) (fun h193 => ?_)
    · refine v_iload_n X dX8_isSpread_34 rfl 3 rfl ?_
      refine v_if_lt X dX8_isSpread_35 (tgt := 210) (by decide) (fun h35 => ?_) (fun h35 => ?_)
      · refine v_iload_n X dX8_isSpread_210 rfl 3 rfl ?_
        refine v_if_lt X dX8_isSpread_211 (tgt := 218) (by decide) (fun h211 => ?_) (fun h211 => ?_)
        · refine v_iconst X dX8_isSpread_218 (v := nI 0) (by decide) ?_
          exact v_zret X Y dX8_isSpread_219 (by decide) (jwrI_of h (by rw [spA_f hE]) (by rw [hE]; rfl)) (by omega) (by omega)
        · exact absurd (show nI 0 - 1 < 0 by decide) h211
      · exact absurd (show nI 0 - 1 < 0 by decide) h35
    · exact absurd (show nI 0 - 1 < 0 by decide) h193
  have BK1 : ∀ (d : Nat) (a h : Nat → Nat), d < cy 5 → B.testBit d = true → V E Z 34 [(0, .ref k), (1, .int (nI B)), (2, .int (nI men)), (3, .int (nI d))] [] [ob k 8 [.int (nI th), .int (nI tr), .int wh, .ref g, va_rf rr, .ref (q 5), .int (nI (z 6)), .int (nI (z 7)), .int (nI (z 8)), .int (nI (z 9)), .int (nI (z 10)), .int nb, .int (nI (z 12)), .int wa, .long wd, .ref (q 15), .ref (q 16), .ref (q 17), .ref (q 18), .int (nI (z 19)), .int (nI (z 20)), .ref (q 21), .long (lN (allS (cy 4))), .ref (q 23), .ref (q 24), .int (nI (z 25)), .ref (q 26), .int al, .long wl, .int (nI (z 29))], ob g 7 [.int (nI (cy 0)), .int (nI (cy 1)), .int (nI (cy 2)), .int (nI (cy 3)), .int (nI (cy 4)), .int (nI (cy 5)), .int (nI (cy 6)), .int (nI (cy 7)), .int (nI kp), .int (nI nc), .ref (cb 0), .ref (cb 1), .ref (cb 2), .ref (cb 3), .ref (cb 4), .ref (cb 5), .ref (cb 6), .ref (cb 7), .ref (cb 8), .ref (cb 9), .ref (cb 10), .ref (cb 11)], aM E (q 21) 8 (lyF Fs Ft t (cy 4) kf (cy 5)), aI E (q 23) 8 (gI a), aN E (q 24) 8 h] 0 0 → V E Z 192 [(0, .ref k), (1, .int (nI B)), (2, .int (nI men)), (3, .int (nI (d + 1) - 1))] [] [ob k 8 [.int (nI th), .int (nI tr), .int wh, .ref g, va_rf rr, .ref (q 5), .int (nI (z 6)), .int (nI (z 7)), .int (nI (z 8)), .int (nI (z 9)), .int (nI (z 10)), .int nb, .int (nI (z 12)), .int wa, .long wd, .ref (q 15), .ref (q 16), .ref (q 17), .ref (q 18), .int (nI (z 19)), .int (nI (z 20)), .ref (q 21), .long (lN (allS (cy 4))), .ref (q 23), .ref (q 24), .int (nI (z 25)), .ref (q 26), .int al, .long wl, .int (nI (z 29))], ob g 7 [.int (nI (cy 0)), .int (nI (cy 1)), .int (nI (cy 2)), .int (nI (cy 3)), .int (nI (cy 4)), .int (nI (cy 5)), .int (nI (cy 6)), .int (nI (cy 7)), .int (nI kp), .int (nI nc), .ref (cb 0), .ref (cb 1), .ref (cb 2), .ref (cb 3), .ref (cb 4), .ref (cb 5), .ref (cb 6), .ref (cb 7), .ref (cb 8), .ref (cb 9), .ref (cb 10), .ref (cb 11)], aM E (q 21) 8 (lyF Fs Ft t (cy 4) kf (cy 5)), aI E (q 23) 8 (gI a), aN E (q 24) 8 h] 0 0 := by
    intro d a h hd8 hBd kk
    refine V.cast (lv' := [(0, .ref k), (1, .int (nI B)), (2, .int (nI men)), (3, .int (nI d))]) (by rw [nI_s1]) rfl rfl ?_
    refine v_iload_n X dX8_isSpread_192 rfl 3 rfl ?_
    refine v_if_lt X dX8_isSpread_193 (tgt := 34) (by decide) (fun h193 => ?_) (fun h193 => ?_)
    · exact absurd h193 (nI_pos (by omega))
    · refine v_iload_n X dX8_isSpread_196 rfl 1 rfl ?_
      refine v_iload_n X dX8_isSpread_197 rfl 3 rfl ?_
      refine v_roI1 X (rn_S X k_X8_bit ml_X8_274 dX8_isSpread_198 (c_X8_bit l E B d (by omega) (by omega)) rfl (by decide) (by decide) (by omega) (by omega) (Nat.le_of_ble_eq_true rfl)) [] rfl rfl ?_
      refine v_ifB_ne X dX8_isSpread_201 (tgt := 34) (by decide) (fun h201 => ?_) (fun h201 => ?_)
      · refine V.lvs [0, 1, 2, 3] rfl ?_
        exact kk
      · exact absurd h201 (by rw [hBd]; decide)
  have BK0 : ∀ (d : Nat) (a h : Nat → Nat), d < cy 5 → B.testBit d = false → V E Z 192 [(0, .ref k), (1, .int (nI B)), (2, .int (nI men)), (3, .int (nI d - 1))] [] [ob k 8 [.int (nI th), .int (nI tr), .int wh, .ref g, va_rf rr, .ref (q 5), .int (nI (z 6)), .int (nI (z 7)), .int (nI (z 8)), .int (nI (z 9)), .int (nI (z 10)), .int nb, .int (nI (z 12)), .int wa, .long wd, .ref (q 15), .ref (q 16), .ref (q 17), .ref (q 18), .int (nI (z 19)), .int (nI (z 20)), .ref (q 21), .long (lN (allS (cy 4))), .ref (q 23), .ref (q 24), .int (nI (z 25)), .ref (q 26), .int al, .long wl, .int (nI (z 29))], ob g 7 [.int (nI (cy 0)), .int (nI (cy 1)), .int (nI (cy 2)), .int (nI (cy 3)), .int (nI (cy 4)), .int (nI (cy 5)), .int (nI (cy 6)), .int (nI (cy 7)), .int (nI kp), .int (nI nc), .ref (cb 0), .ref (cb 1), .ref (cb 2), .ref (cb 3), .ref (cb 4), .ref (cb 5), .ref (cb 6), .ref (cb 7), .ref (cb 8), .ref (cb 9), .ref (cb 10), .ref (cb 11)], aM E (q 21) 8 (lyF Fs Ft t (cy 4) kf (cy 5)), aI E (q 23) 8 (gI a), aN E (q 24) 8 h] 0 0 → V E Z 192 [(0, .ref k), (1, .int (nI B)), (2, .int (nI men)), (3, .int (nI (d + 1) - 1))] [] [ob k 8 [.int (nI th), .int (nI tr), .int wh, .ref g, va_rf rr, .ref (q 5), .int (nI (z 6)), .int (nI (z 7)), .int (nI (z 8)), .int (nI (z 9)), .int (nI (z 10)), .int nb, .int (nI (z 12)), .int wa, .long wd, .ref (q 15), .ref (q 16), .ref (q 17), .ref (q 18), .int (nI (z 19)), .int (nI (z 20)), .ref (q 21), .long (lN (allS (cy 4))), .ref (q 23), .ref (q 24), .int (nI (z 25)), .ref (q 26), .int al, .long wl, .int (nI (z 29))], ob g 7 [.int (nI (cy 0)), .int (nI (cy 1)), .int (nI (cy 2)), .int (nI (cy 3)), .int (nI (cy 4)), .int (nI (cy 5)), .int (nI (cy 6)), .int (nI (cy 7)), .int (nI kp), .int (nI nc), .ref (cb 0), .ref (cb 1), .ref (cb 2), .ref (cb 3), .ref (cb 4), .ref (cb 5), .ref (cb 6), .ref (cb 7), .ref (cb 8), .ref (cb 9), .ref (cb 10), .ref (cb 11)], aM E (q 21) 8 (lyF Fs Ft t (cy 4) kf (cy 5)), aI E (q 23) 8 (gI a), aN E (q 24) 8 h] 0 0 := by
    intro d a h hd8 hBd kk
    refine V.cast (lv' := [(0, .ref k), (1, .int (nI B)), (2, .int (nI men)), (3, .int (nI d))]) (by rw [nI_s1]) rfl rfl ?_
    refine v_iload_n X dX8_isSpread_192 rfl 3 rfl ?_
    refine v_if_lt X dX8_isSpread_193 (tgt := 34) (by decide) (fun h193 => ?_) (fun h193 => ?_)
    · exact absurd h193 (nI_pos (by omega))
    · refine v_iload_n X dX8_isSpread_196 rfl 1 rfl ?_
      refine v_iload_n X dX8_isSpread_197 rfl 3 rfl ?_
      refine v_roI1 X (rn_S X k_X8_bit ml_X8_274 dX8_isSpread_198 (c_X8_bit l E B d (by omega) (by omega)) rfl (by decide) (by decide) (by omega) (by omega) (Nat.le_of_ble_eq_true rfl)) [] rfl rfl ?_
      refine v_ifB_ne X dX8_isSpread_201 (tgt := 34) (by decide) (fun h201 => ?_) (fun h201 => ?_)
      · exact absurd h201 (by rw [hBd]; decide)
      · refine v_iinc X dX8_isSpread_204 3 rfl (v := (nI d - 1)) (m1_inc d) (by decide) (lv' := [(3, .int (nI d - 1)), (0, .ref k), (1, .int (nI B)), (2, .int (nI men))]) rfl ?_
        refine v_goto X dX8_isSpread_207 (tgt := 192) (by decide) ?_
        refine V.lvs [1, 2, 3, 0] rfl ?_
        exact kk
  have SUB : ∀ (kx c : Nat) (a h : Nat → Nat), c + kx = cy 5 → (∀ j, c ≤ j → a j = 0) → (∀ m, h m < 2 ^ c) → (exB (okS cy Fs Ft t) B men kx c h = true → ∀ h9 : Nat → Nat, V E Z 34 [(0, .ref k), (1, .int (nI B)), (2, .int (nI men)), (3, .int (nI (cy 5)))] [] [ob k 8 [.int (nI th), .int (nI tr), .int wh, .ref g, va_rf rr, .ref (q 5), .int (nI (z 6)), .int (nI (z 7)), .int (nI (z 8)), .int (nI (z 9)), .int (nI (z 10)), .int nb, .int (nI (z 12)), .int wa, .long wd, .ref (q 15), .ref (q 16), .ref (q 17), .ref (q 18), .int (nI (z 19)), .int (nI (z 20)), .ref (q 21), .long (lN (allS (cy 4))), .ref (q 23), .ref (q 24), .int (nI (z 25)), .ref (q 26), .int al, .long wl, .int (nI (z 29))], ob g 7 [.int (nI (cy 0)), .int (nI (cy 1)), .int (nI (cy 2)), .int (nI (cy 3)), .int (nI (cy 4)), .int (nI (cy 5)), .int (nI (cy 6)), .int (nI (cy 7)), .int (nI kp), .int (nI nc), .ref (cb 0), .ref (cb 1), .ref (cb 2), .ref (cb 3), .ref (cb 4), .ref (cb 5), .ref (cb 6), .ref (cb 7), .ref (cb 8), .ref (cb 9), .ref (cb 10), .ref (cb 11)], aM E (q 21) 8 (lyF Fs Ft t (cy 4) kf (cy 5)), aI E (q 23) 8 (gI (grX (okS cy Fs Ft t) B men kx c h a)), aN E (q 24) 8 h9] 0 0) → (exB (okS cy Fs Ft t) B men kx c h = false → V E Z 192 [(0, .ref k), (1, .int (nI B)), (2, .int (nI men)), (3, .int (nI c - 1))] [] [ob k 8 [.int (nI th), .int (nI tr), .int wh, .ref g, va_rf rr, .ref (q 5), .int (nI (z 6)), .int (nI (z 7)), .int (nI (z 8)), .int (nI (z 9)), .int (nI (z 10)), .int nb, .int (nI (z 12)), .int wa, .long wd, .ref (q 15), .ref (q 16), .ref (q 17), .ref (q 18), .int (nI (z 19)), .int (nI (z 20)), .ref (q 21), .long (lN (allS (cy 4))), .ref (q 23), .ref (q 24), .int (nI (z 25)), .ref (q 26), .int al, .long wl, .int (nI (z 29))], ob g 7 [.int (nI (cy 0)), .int (nI (cy 1)), .int (nI (cy 2)), .int (nI (cy 3)), .int (nI (cy 4)), .int (nI (cy 5)), .int (nI (cy 6)), .int (nI (cy 7)), .int (nI kp), .int (nI nc), .ref (cb 0), .ref (cb 1), .ref (cb 2), .ref (cb 3), .ref (cb 4), .ref (cb 5), .ref (cb 6), .ref (cb 7), .ref (cb 8), .ref (cb 9), .ref (cb 10), .ref (cb 11)], aM E (q 21) 8 (lyF Fs Ft t (cy 4) kf (cy 5)), aI E (q 23) 8 (gI a), aN E (q 24) 8 h] 0 0) → V E Z 34 [(0, .ref k), (1, .int (nI B)), (2, .int (nI men)), (3, .int (nI c))] [] [ob k 8 [.int (nI th), .int (nI tr), .int wh, .ref g, va_rf rr, .ref (q 5), .int (nI (z 6)), .int (nI (z 7)), .int (nI (z 8)), .int (nI (z 9)), .int (nI (z 10)), .int nb, .int (nI (z 12)), .int wa, .long wd, .ref (q 15), .ref (q 16), .ref (q 17), .ref (q 18), .int (nI (z 19)), .int (nI (z 20)), .ref (q 21), .long (lN (allS (cy 4))), .ref (q 23), .ref (q 24), .int (nI (z 25)), .ref (q 26), .int al, .long wl, .int (nI (z 29))], ob g 7 [.int (nI (cy 0)), .int (nI (cy 1)), .int (nI (cy 2)), .int (nI (cy 3)), .int (nI (cy 4)), .int (nI (cy 5)), .int (nI (cy 6)), .int (nI (cy 7)), .int (nI kp), .int (nI nc), .ref (cb 0), .ref (cb 1), .ref (cb 2), .ref (cb 3), .ref (cb 4), .ref (cb 5), .ref (cb 6), .ref (cb 7), .ref (cb 8), .ref (cb 9), .ref (cb 10), .ref (cb 11)], aM E (q 21) 8 (lyF Fs Ft t (cy 4) kf (cy 5)), aI E (q 23) 8 (gI a), aN E (q 24) 8 h] 0 0 := by
    intro kx
    induction kx with
    | zero =>
      intro c a h hc ha hh kyes kno
      obtain rfl : c = cy 5 := by omega
      have e : grX (okS cy Fs Ft t) B men 0 (cy 5) h a = a := by funext j; unfold grX; rw [if_neg (fun q => by have := q.2; rw [Nat.testBit_lt_two_pow (Nat.lt_of_lt_of_le hB (Nat.pow_le_pow_right (by decide) q.1))] at this; cases this)]
      have kz := kyes rfl h
      rw [e] at kz
      exact kz
    | succ kx ih =>
      intro c a h hc ha hh kyes kno
      cases hBc : B.testBit c with
      | false =>
        rw [ex_n hBc, grX_n hBc] at kyes
        rw [ex_n hBc] at kno
        have hh2 : ∀ m, h m < 2 ^ (c + 1) := fun m => Nat.lt_trans (hh m) (Nat.pow_lt_pow_right (by decide) (by omega))
        have kn := ih (c + 1) a h (by omega) (fun j hj => ha j (by omega)) hh2 kyes (fun q => BK0 c a h (by omega) hBc (kno q))
        refine v_iload_n X dX8_isSpread_34 rfl 3 rfl ?_
        refine v_if_lt X dX8_isSpread_35 (tgt := 210) (by decide) (fun h35 => ?_) (fun h35 => ?_)
        · exact absurd h35 (nI_pos (by omega))
        · refine v_iload_n X dX8_isSpread_38 rfl 3 rfl ?_
          refine v_aload_n X dX8_isSpread_39 rfl 0 rfl ?_
          refine v_get X kcX8 fl_X8_306 dX8_isSpread_40 0 rfl rfl ?_
          refine v_getN X kcX7 fl_X8_240 dX8_isSpread_43 1 rfl rfl ?_
          refine v_icmpN_ge X dX8_isSpread_46 (tgt := 210) (by decide) (by omega) (by omega) (fun h46 => ?_) (fun h46 => ?_)
          · exfalso; omega
          · refine v_iload_n X dX8_isSpread_49 rfl 1 rfl ?_
            refine v_iload_n X dX8_isSpread_50 rfl 3 rfl ?_
            refine v_roI1 X (rn_S X k_X8_bit ml_X8_274 dX8_isSpread_51 (c_X8_bit l E B c (by omega) (by omega)) rfl (by decide) (by decide) (by omega) (by omega) (Nat.le_of_ble_eq_true rfl)) [] rfl rfl ?_
            refine v_ifB_ne X dX8_isSpread_54 (tgt := 63) (by decide) (fun h54 => ?_) (fun h54 => ?_)
            · exact absurd h54 (by rw [hBc]; decide)
            · refine v_iinc X dX8_isSpread_57 3 rfl (v := nI (c + 1)) (nI_inc c) (by decide) (lv' := [(3, .int (nI (c + 1))), (0, .ref k), (1, .int (nI B)), (2, .int (nI men))]) rfl ?_
              refine v_goto X dX8_isSpread_60 (tgt := 34) (by decide) ?_
              refine V.lvs [1, 2, 3, 0] rfl ?_
              exact kn
      | true =>
        have hor : ∀ m, h m ||| 2 ^ c < 2 ^ 31 := fun m => Nat.or_lt_two_pow (Nat.lt_of_lt_of_le (hh m) (Nat.pow_le_pow_right (by decide) (by omega))) (Nat.pow_lt_pow_right (by decide) (by omega))
        have FIND : ∀ (r y : Nat), y + r = men → (∀ m, m < y → exP (okS cy Fs Ft t) B men kx c h m = false) → V E Z 102 [(0, .ref k), (1, .int (nI B)), (2, .int (nI men)), (3, .int (nI c))] [] [ob k 8 [.int (nI th), .int (nI tr), .int wh, .ref g, va_rf rr, .ref (q 5), .int (nI (z 6)), .int (nI (z 7)), .int (nI (z 8)), .int (nI (z 9)), .int (nI (z 10)), .int nb, .int (nI (z 12)), .int wa, .long wd, .ref (q 15), .ref (q 16), .ref (q 17), .ref (q 18), .int (nI (z 19)), .int (nI (z 20)), .ref (q 21), .long (lN (allS (cy 4))), .ref (q 23), .ref (q 24), .int (nI (z 25)), .ref (q 26), .int al, .long wl, .int (nI (z 29))], ob g 7 [.int (nI (cy 0)), .int (nI (cy 1)), .int (nI (cy 2)), .int (nI (cy 3)), .int (nI (cy 4)), .int (nI (cy 5)), .int (nI (cy 6)), .int (nI (cy 7)), .int (nI kp), .int (nI nc), .ref (cb 0), .ref (cb 1), .ref (cb 2), .ref (cb 3), .ref (cb 4), .ref (cb 5), .ref (cb 6), .ref (cb 7), .ref (cb 8), .ref (cb 9), .ref (cb 10), .ref (cb 11)], aM E (q 21) 8 (lyF Fs Ft t (cy 4) kf (cy 5)), aI E (q 23) 8 (gI (upN a c (y + 1))), aN E (q 24) 8 h] 0 0 := by
          intro r
          induction r with
          | zero =>
            intro y hy hp
            have kq := kno (ex_no hBc (fun m hm => hp m (by omega)))
            refine v_aload_n X dX8_isSpread_102 rfl 0 rfl ?_
            refine v_get X kcX8 fl_X8_34 dX8_isSpread_103 0 rfl rfl ?_
            refine v_iload_n X dX8_isSpread_106 rfl 3 rfl ?_
            refine v_iald X dX8_isSpread_107 3 rfl (by omega) (by decide) ?_
            refine v_eqi (x' := nI y) (gI_m (upN_at _ _ _)) ?_
            refine v_iload_n X dX8_isSpread_108 rfl 2 rfl ?_
            refine v_icmpN_ge X dX8_isSpread_109 (tgt := 149) (by decide) (by omega) (by omega) (fun h109 => ?_) (fun h109 => ?_)
            · refine v_aload_n X dX8_isSpread_149 rfl 0 rfl ?_
              refine v_get X kcX8 fl_X8_34 dX8_isSpread_150 0 rfl rfl ?_
              refine v_iload_n X dX8_isSpread_153 rfl 3 rfl ?_
              refine v_iald X dX8_isSpread_154 3 rfl (by omega) (by decide) ?_
              refine v_eqi (x' := nI y) (gI_m (upN_at _ _ _)) ?_
              refine v_iload_n X dX8_isSpread_155 rfl 2 rfl ?_
              refine v_icmpN_ge X dX8_isSpread_156 (tgt := 182) (by decide) (by omega) (by omega) (fun h156 => ?_) (fun h156 => ?_)
              · refine v_aload_n X dX8_isSpread_182 rfl 0 rfl ?_
                refine v_get X kcX8 fl_X8_34 dX8_isSpread_183 0 rfl rfl ?_
                refine v_iload_n X dX8_isSpread_186 rfl 3 rfl ?_
                refine v_iconst X dX8_isSpread_187 (v := (-1)) (by decide) ?_
                refine v_iast X dX8_isSpread_188 3 rfl (by omega) (by decide) (ws' := [ob k 8 [.int (nI th), .int (nI tr), .int wh, .ref g, va_rf rr, .ref (q 5), .int (nI (z 6)), .int (nI (z 7)), .int (nI (z 8)), .int (nI (z 9)), .int (nI (z 10)), .int nb, .int (nI (z 12)), .int wa, .long wd, .ref (q 15), .ref (q 16), .ref (q 17), .ref (q 18), .int (nI (z 19)), .int (nI (z 20)), .ref (q 21), .long (lN (allS (cy 4))), .ref (q 23), .ref (q 24), .int (nI (z 25)), .ref (q 26), .int al, .long wl, .int (nI (z 29))], ob g 7 [.int (nI (cy 0)), .int (nI (cy 1)), .int (nI (cy 2)), .int (nI (cy 3)), .int (nI (cy 4)), .int (nI (cy 5)), .int (nI (cy 6)), .int (nI (cy 7)), .int (nI kp), .int (nI nc), .ref (cb 0), .ref (cb 1), .ref (cb 2), .ref (cb 3), .ref (cb 4), .ref (cb 5), .ref (cb 6), .ref (cb 7), .ref (cb 8), .ref (cb 9), .ref (cb 10), .ref (cb 11)], aM E (q 21) 8 (lyF Fs Ft t (cy 4) kf (cy 5)), aI E (q 23) 8 (upd (gI (upN a c (y + 1))) c (-1)), aN E (q 24) 8 h]) rfl ?_
                refine V.arI 3 rfl (g' := gI a) (fun j _ => by rw [show (-1 : Int32) = nI 0 - 1 by decide, gI_up, upN_up, upN_id (ha c (Nat.le_refl _))]) (ws' := [ob k 8 [.int (nI th), .int (nI tr), .int wh, .ref g, va_rf rr, .ref (q 5), .int (nI (z 6)), .int (nI (z 7)), .int (nI (z 8)), .int (nI (z 9)), .int (nI (z 10)), .int nb, .int (nI (z 12)), .int wa, .long wd, .ref (q 15), .ref (q 16), .ref (q 17), .ref (q 18), .int (nI (z 19)), .int (nI (z 20)), .ref (q 21), .long (lN (allS (cy 4))), .ref (q 23), .ref (q 24), .int (nI (z 25)), .ref (q 26), .int al, .long wl, .int (nI (z 29))], ob g 7 [.int (nI (cy 0)), .int (nI (cy 1)), .int (nI (cy 2)), .int (nI (cy 3)), .int (nI (cy 4)), .int (nI (cy 5)), .int (nI (cy 6)), .int (nI (cy 7)), .int (nI kp), .int (nI nc), .ref (cb 0), .ref (cb 1), .ref (cb 2), .ref (cb 3), .ref (cb 4), .ref (cb 5), .ref (cb 6), .ref (cb 7), .ref (cb 8), .ref (cb 9), .ref (cb 10), .ref (cb 11)], aM E (q 21) 8 (lyF Fs Ft t (cy 4) kf (cy 5)), aI E (q 23) 8 (gI a), aN E (q 24) 8 h]) rfl ?_
                refine v_iinc X dX8_isSpread_189 3 rfl (v := (nI c - 1)) (m1_inc c) (by decide) (lv' := [(3, .int (nI c - 1)), (0, .ref k), (1, .int (nI B)), (2, .int (nI men))]) rfl ?_
                refine V.lvs [1, 2, 3, 0] rfl ?_
                exact kq
              · exfalso; omega
            · exfalso; omega
          | succ r ihr =>
            intro y hy hp
            have hym : y < men := by omega
            have RET : exP (okS cy Fs Ft t) B men kx c h y = false → V E Z 34 [(0, .ref k), (1, .int (nI B)), (2, .int (nI men)), (3, .int (nI c))] [] [ob k 8 [.int (nI th), .int (nI tr), .int wh, .ref g, va_rf rr, .ref (q 5), .int (nI (z 6)), .int (nI (z 7)), .int (nI (z 8)), .int (nI (z 9)), .int (nI (z 10)), .int nb, .int (nI (z 12)), .int wa, .long wd, .ref (q 15), .ref (q 16), .ref (q 17), .ref (q 18), .int (nI (z 19)), .int (nI (z 20)), .ref (q 21), .long (lN (allS (cy 4))), .ref (q 23), .ref (q 24), .int (nI (z 25)), .ref (q 26), .int al, .long wl, .int (nI (z 29))], ob g 7 [.int (nI (cy 0)), .int (nI (cy 1)), .int (nI (cy 2)), .int (nI (cy 3)), .int (nI (cy 4)), .int (nI (cy 5)), .int (nI (cy 6)), .int (nI (cy 7)), .int (nI kp), .int (nI nc), .ref (cb 0), .ref (cb 1), .ref (cb 2), .ref (cb 3), .ref (cb 4), .ref (cb 5), .ref (cb 6), .ref (cb 7), .ref (cb 8), .ref (cb 9), .ref (cb 10), .ref (cb 11)], aM E (q 21) 8 (lyF Fs Ft t (cy 4) kf (cy 5)), aI E (q 23) 8 (gI (upN a c (y + 1))), aN E (q 24) 8 (upN h y (h y ||| 2 ^ c))] 0 0 := by
              intro hq
              have kn := ihr (y + 1) (by omega) (fun m hm => by (rcases Nat.lt_or_ge m y with z | z); exact hp m z; (have e9 : m = y := by omega); rw [e9]; exact hq)
              refine v_iload_n X dX8_isSpread_34 rfl 3 rfl ?_
              refine v_if_lt X dX8_isSpread_35 (tgt := 210) (by decide) (fun h35 => ?_) (fun h35 => ?_)
              · exact absurd h35 (nI_pos (by omega))
              · refine v_iload_n X dX8_isSpread_38 rfl 3 rfl ?_
                refine v_aload_n X dX8_isSpread_39 rfl 0 rfl ?_
                refine v_get X kcX8 fl_X8_306 dX8_isSpread_40 0 rfl rfl ?_
                refine v_getN X kcX7 fl_X8_240 dX8_isSpread_43 1 rfl rfl ?_
                refine v_icmpN_ge X dX8_isSpread_46 (tgt := 210) (by decide) (by omega) (by omega) (fun h46 => ?_) (fun h46 => ?_)
                · exfalso; omega
                · refine v_iload_n X dX8_isSpread_49 rfl 1 rfl ?_
                  refine v_iload_n X dX8_isSpread_50 rfl 3 rfl ?_
                  refine v_roI1 X (rn_S X k_X8_bit ml_X8_274 dX8_isSpread_51 (c_X8_bit l E B c (by omega) (by omega)) rfl (by decide) (by decide) (by omega) (by omega) (Nat.le_of_ble_eq_true rfl)) [] rfl rfl ?_
                  refine v_ifB_ne X dX8_isSpread_54 (tgt := 63) (by decide) (fun h54 => ?_) (fun h54 => ?_)
                  · refine v_aload_n X dX8_isSpread_63 rfl 0 rfl ?_
                    refine v_get X kcX8 fl_X8_34 dX8_isSpread_64 0 rfl rfl ?_
                    refine v_iload_n X dX8_isSpread_67 rfl 3 rfl ?_
                    refine v_iald X dX8_isSpread_68 3 rfl (by omega) (by decide) ?_
                    refine v_eqi (x' := nI y) (gI_m (upN_at _ _ _)) ?_
                    refine v_iconst X dX8_isSpread_69 (v := (-1)) (by decide) ?_
                    refine v_icmp_eq X dX8_isSpread_70 (tgt := 92) (by decide) (fun h70 => ?_) (fun h70 => ?_)
                    · exact (nm1 h70 (by omega)).elim
                    · refine v_aload_n X dX8_isSpread_73 rfl 0 rfl ?_
                      refine v_get X kcX8 fl_X8_37 dX8_isSpread_74 0 rfl rfl ?_
                      refine v_aload_n X dX8_isSpread_77 rfl 0 rfl ?_
                      refine v_get X kcX8 fl_X8_34 dX8_isSpread_78 0 rfl rfl ?_
                      refine v_iload_n X dX8_isSpread_81 rfl 3 rfl ?_
                      refine v_iald X dX8_isSpread_82 3 rfl (by omega) (by decide) ?_
                      refine v_eqi (x' := nI y) (gI_m (upN_at _ _ _)) ?_
                      refine v_dup2 X dX8_isSpread_83 rfl rfl ?_
                      refine v_iald X dX8_isSpread_84 4 rfl (by omega) (by decide) ?_
                      refine v_iconst X dX8_isSpread_85 (v := nI 1) (by decide) ?_
                      refine v_iload_n X dX8_isSpread_86 rfl 3 rfl ?_
                      refine v_ishl X dX8_isSpread_87 ?_
                      refine v_eqi (x' := nI (2 ^ c)) (nI_shl1 (by omega)) ?_
                      refine v_iconst X dX8_isSpread_88 (v := (-1)) (by decide) ?_
                      refine v_ixor X dX8_isSpread_89 ?_
                      refine v_iand X dX8_isSpread_90 ?_
                      refine v_eqi (x' := nI (ndf ((upN h y (h y ||| 2 ^ c)) y) (2 ^ c))) (nI_andn _ _) ?_
                      refine v_iast X dX8_isSpread_91 4 rfl (by omega) (by decide) (ws' := [ob k 8 [.int (nI th), .int (nI tr), .int wh, .ref g, va_rf rr, .ref (q 5), .int (nI (z 6)), .int (nI (z 7)), .int (nI (z 8)), .int (nI (z 9)), .int (nI (z 10)), .int nb, .int (nI (z 12)), .int wa, .long wd, .ref (q 15), .ref (q 16), .ref (q 17), .ref (q 18), .int (nI (z 19)), .int (nI (z 20)), .ref (q 21), .long (lN (allS (cy 4))), .ref (q 23), .ref (q 24), .int (nI (z 25)), .ref (q 26), .int al, .long wl, .int (nI (z 29))], ob g 7 [.int (nI (cy 0)), .int (nI (cy 1)), .int (nI (cy 2)), .int (nI (cy 3)), .int (nI (cy 4)), .int (nI (cy 5)), .int (nI (cy 6)), .int (nI (cy 7)), .int (nI kp), .int (nI nc), .ref (cb 0), .ref (cb 1), .ref (cb 2), .ref (cb 3), .ref (cb 4), .ref (cb 5), .ref (cb 6), .ref (cb 7), .ref (cb 8), .ref (cb 9), .ref (cb 10), .ref (cb 11)], aM E (q 21) 8 (lyF Fs Ft t (cy 4) kf (cy 5)), aI E (q 23) 8 (gI (upN a c (y + 1))), aN E (q 24) 8 (upN (upN h y (h y ||| 2 ^ c)) y (ndf ((upN h y (h y ||| 2 ^ c)) y) (2 ^ c)))]) (by rw [upd_nI]; rfl) ?_
                      refine V.arN 4 rfl (g' := h) (fun j _ => by rw [upN_at, ndf_or (hh y), upN_up, upN_id rfl]) (ws' := [ob k 8 [.int (nI th), .int (nI tr), .int wh, .ref g, va_rf rr, .ref (q 5), .int (nI (z 6)), .int (nI (z 7)), .int (nI (z 8)), .int (nI (z 9)), .int (nI (z 10)), .int nb, .int (nI (z 12)), .int wa, .long wd, .ref (q 15), .ref (q 16), .ref (q 17), .ref (q 18), .int (nI (z 19)), .int (nI (z 20)), .ref (q 21), .long (lN (allS (cy 4))), .ref (q 23), .ref (q 24), .int (nI (z 25)), .ref (q 26), .int al, .long wl, .int (nI (z 29))], ob g 7 [.int (nI (cy 0)), .int (nI (cy 1)), .int (nI (cy 2)), .int (nI (cy 3)), .int (nI (cy 4)), .int (nI (cy 5)), .int (nI (cy 6)), .int (nI (cy 7)), .int (nI kp), .int (nI nc), .ref (cb 0), .ref (cb 1), .ref (cb 2), .ref (cb 3), .ref (cb 4), .ref (cb 5), .ref (cb 6), .ref (cb 7), .ref (cb 8), .ref (cb 9), .ref (cb 10), .ref (cb 11)], aM E (q 21) 8 (lyF Fs Ft t (cy 4) kf (cy 5)), aI E (q 23) 8 (gI (upN a c (y + 1))), aN E (q 24) 8 h]) rfl ?_
                      refine v_aload_n X dX8_isSpread_92 rfl 0 rfl ?_
                      refine v_get X kcX8 fl_X8_34 dX8_isSpread_93 0 rfl rfl ?_
                      refine v_iload_n X dX8_isSpread_96 rfl 3 rfl ?_
                      refine v_dup2 X dX8_isSpread_97 rfl rfl ?_
                      refine v_iald X dX8_isSpread_98 3 rfl (by omega) (by decide) ?_
                      refine v_eqi (x' := nI y) (gI_m (upN_at _ _ _)) ?_
                      refine v_iconst X dX8_isSpread_99 (v := nI 1) (by decide) ?_
                      refine v_iadd X dX8_isSpread_100 ?_
                      refine v_eqi (x' := nI (y + 1)) (nI_add _ _) ?_
                      refine v_eqi (x' := nI (y + 1 + 1) - 1) (by rw [nI_s1]) ?_
                      refine v_iast X dX8_isSpread_101 3 rfl (by omega) (by decide) (ws' := [ob k 8 [.int (nI th), .int (nI tr), .int wh, .ref g, va_rf rr, .ref (q 5), .int (nI (z 6)), .int (nI (z 7)), .int (nI (z 8)), .int (nI (z 9)), .int (nI (z 10)), .int nb, .int (nI (z 12)), .int wa, .long wd, .ref (q 15), .ref (q 16), .ref (q 17), .ref (q 18), .int (nI (z 19)), .int (nI (z 20)), .ref (q 21), .long (lN (allS (cy 4))), .ref (q 23), .ref (q 24), .int (nI (z 25)), .ref (q 26), .int al, .long wl, .int (nI (z 29))], ob g 7 [.int (nI (cy 0)), .int (nI (cy 1)), .int (nI (cy 2)), .int (nI (cy 3)), .int (nI (cy 4)), .int (nI (cy 5)), .int (nI (cy 6)), .int (nI (cy 7)), .int (nI kp), .int (nI nc), .ref (cb 0), .ref (cb 1), .ref (cb 2), .ref (cb 3), .ref (cb 4), .ref (cb 5), .ref (cb 6), .ref (cb 7), .ref (cb 8), .ref (cb 9), .ref (cb 10), .ref (cb 11)], aM E (q 21) 8 (lyF Fs Ft t (cy 4) kf (cy 5)), aI E (q 23) 8 (upd (gI (upN a c (y + 1))) c (nI (y + 1 + 1) - 1)), aN E (q 24) 8 h]) rfl ?_
                      refine V.arI 3 rfl (g' := gI (upN a c (y + 1 + 1))) (fun j _ => by rw [gI_up, upN_up]) (ws' := [ob k 8 [.int (nI th), .int (nI tr), .int wh, .ref g, va_rf rr, .ref (q 5), .int (nI (z 6)), .int (nI (z 7)), .int (nI (z 8)), .int (nI (z 9)), .int (nI (z 10)), .int nb, .int (nI (z 12)), .int wa, .long wd, .ref (q 15), .ref (q 16), .ref (q 17), .ref (q 18), .int (nI (z 19)), .int (nI (z 20)), .ref (q 21), .long (lN (allS (cy 4))), .ref (q 23), .ref (q 24), .int (nI (z 25)), .ref (q 26), .int al, .long wl, .int (nI (z 29))], ob g 7 [.int (nI (cy 0)), .int (nI (cy 1)), .int (nI (cy 2)), .int (nI (cy 3)), .int (nI (cy 4)), .int (nI (cy 5)), .int (nI (cy 6)), .int (nI (cy 7)), .int (nI kp), .int (nI nc), .ref (cb 0), .ref (cb 1), .ref (cb 2), .ref (cb 3), .ref (cb 4), .ref (cb 5), .ref (cb 6), .ref (cb 7), .ref (cb 8), .ref (cb 9), .ref (cb 10), .ref (cb 11)], aM E (q 21) 8 (lyF Fs Ft t (cy 4) kf (cy 5)), aI E (q 23) 8 (gI (upN a c (y + 1 + 1))), aN E (q 24) 8 h]) rfl ?_
                      refine V.lvs [0, 1, 2, 3] rfl ?_
                      exact kn
                  · exact absurd h54 (by rw [hBc]; decide)
            cases hko : okS cy Fs Ft t (h y ||| 2 ^ c) with
            | false =>
              have kn := ihr (y + 1) (by omega) (fun m hm => by (rcases Nat.lt_or_ge m y with z | z); exact hp m z; (have e9 : m = y := by omega); rw [e9]; unfold exP; rw [hko]; rfl)
              have hk0 : kpN cy Fs Ft t (h y ||| 2 ^ c) = 0 := Classical.not_not.mp (of_decide_eq_false hko)
              refine v_aload_n X dX8_isSpread_102 rfl 0 rfl ?_
              refine v_get X kcX8 fl_X8_34 dX8_isSpread_103 0 rfl rfl ?_
              refine v_iload_n X dX8_isSpread_106 rfl 3 rfl ?_
              refine v_iald X dX8_isSpread_107 3 rfl (by omega) (by decide) ?_
              refine v_eqi (x' := nI y) (gI_m (upN_at _ _ _)) ?_
              refine v_iload_n X dX8_isSpread_108 rfl 2 rfl ?_
              refine v_icmpN_ge X dX8_isSpread_109 (tgt := 149) (by decide) (by omega) (by omega) (fun h109 => ?_) (fun h109 => ?_)
              · exfalso; omega
              · refine v_aload_n X dX8_isSpread_112 rfl 0 rfl ?_
                refine v_aload_n X dX8_isSpread_113 rfl 0 rfl ?_
                refine v_get X kcX8 fl_X8_37 dX8_isSpread_114 0 rfl rfl ?_
                refine v_aload_n X dX8_isSpread_117 rfl 0 rfl ?_
                refine v_get X kcX8 fl_X8_34 dX8_isSpread_118 0 rfl rfl ?_
                refine v_iload_n X dX8_isSpread_121 rfl 3 rfl ?_
                refine v_iald X dX8_isSpread_122 3 rfl (by omega) (by decide) ?_
                refine v_eqi (x' := nI y) (gI_m (upN_at _ _ _)) ?_
                refine v_iald X dX8_isSpread_123 4 rfl (by omega) (by decide) ?_
                refine v_iconst X dX8_isSpread_124 (v := nI 1) (by decide) ?_
                refine v_iload_n X dX8_isSpread_125 rfl 3 rfl ?_
                refine v_ishl X dX8_isSpread_126 ?_
                refine v_eqi (x' := nI (2 ^ c)) (nI_shl1 (by omega)) ?_
                refine v_ior X dX8_isSpread_127 ?_
                refine v_eqi (x' := nI ((h y) ||| (2 ^ c))) (fa_or _ _) ?_
                refine v_roL1 X (rn_V X k_X8_keepAll ml_X8_335 dX8_isSpread_128 (c_X8_keepAllL l E k th tr wh g rr q z nb wa wd al wl cy kp nc cb Fs Ft kf t ((h y) ||| (2 ^ c)) (by first | assumption | omega) (hor y)) rfl 0 rfl rfl (by decide) (by decide) (by omega) (by omega) (Nat.le_of_ble_eq_true rfl)) [0, 1, 2] rfl rfl ?_
                refine v_lconst X dX8_isSpread_131 (v := lN 0) (by decide) ?_
                refine v_lcmp X dX8_isSpread_132 ?_
                refine v_ifLN_ne X dX8_isSpread_133 (tgt := 149) (by decide) (kpN_lt hd _ _ _ _) (by decide) (fun h133 => ?_) (fun h133 => ?_)
                · exact absurd hk0 h133
                · refine v_aload_n X dX8_isSpread_136 rfl 0 rfl ?_
                  refine v_get X kcX8 fl_X8_34 dX8_isSpread_137 0 rfl rfl ?_
                  refine v_iload_n X dX8_isSpread_140 rfl 3 rfl ?_
                  refine v_dup2 X dX8_isSpread_141 rfl rfl ?_
                  refine v_iald X dX8_isSpread_142 3 rfl (by omega) (by decide) ?_
                  refine v_eqi (x' := nI y) (gI_m (upN_at _ _ _)) ?_
                  refine v_iconst X dX8_isSpread_143 (v := nI 1) (by decide) ?_
                  refine v_iadd X dX8_isSpread_144 ?_
                  refine v_eqi (x' := nI (y + 1)) (nI_add _ _) ?_
                  refine v_eqi (x' := nI (y + 1 + 1) - 1) (by rw [nI_s1]) ?_
                  refine v_iast X dX8_isSpread_145 3 rfl (by omega) (by decide) (ws' := [ob k 8 [.int (nI th), .int (nI tr), .int wh, .ref g, va_rf rr, .ref (q 5), .int (nI (z 6)), .int (nI (z 7)), .int (nI (z 8)), .int (nI (z 9)), .int (nI (z 10)), .int nb, .int (nI (z 12)), .int wa, .long wd, .ref (q 15), .ref (q 16), .ref (q 17), .ref (q 18), .int (nI (z 19)), .int (nI (z 20)), .ref (q 21), .long (lN (allS (cy 4))), .ref (q 23), .ref (q 24), .int (nI (z 25)), .ref (q 26), .int al, .long wl, .int (nI (z 29))], ob g 7 [.int (nI (cy 0)), .int (nI (cy 1)), .int (nI (cy 2)), .int (nI (cy 3)), .int (nI (cy 4)), .int (nI (cy 5)), .int (nI (cy 6)), .int (nI (cy 7)), .int (nI kp), .int (nI nc), .ref (cb 0), .ref (cb 1), .ref (cb 2), .ref (cb 3), .ref (cb 4), .ref (cb 5), .ref (cb 6), .ref (cb 7), .ref (cb 8), .ref (cb 9), .ref (cb 10), .ref (cb 11)], aM E (q 21) 8 (lyF Fs Ft t (cy 4) kf (cy 5)), aI E (q 23) 8 (upd (gI (upN a c (y + 1))) c (nI (y + 1 + 1) - 1)), aN E (q 24) 8 h]) rfl ?_
                  refine v_goto X dX8_isSpread_146 (tgt := 102) (by decide) ?_
                  refine V.arI 3 rfl (g' := gI (upN a c (y + 1 + 1))) (fun j _ => by rw [gI_up, upN_up]) (ws' := [ob k 8 [.int (nI th), .int (nI tr), .int wh, .ref g, va_rf rr, .ref (q 5), .int (nI (z 6)), .int (nI (z 7)), .int (nI (z 8)), .int (nI (z 9)), .int (nI (z 10)), .int nb, .int (nI (z 12)), .int wa, .long wd, .ref (q 15), .ref (q 16), .ref (q 17), .ref (q 18), .int (nI (z 19)), .int (nI (z 20)), .ref (q 21), .long (lN (allS (cy 4))), .ref (q 23), .ref (q 24), .int (nI (z 25)), .ref (q 26), .int al, .long wl, .int (nI (z 29))], ob g 7 [.int (nI (cy 0)), .int (nI (cy 1)), .int (nI (cy 2)), .int (nI (cy 3)), .int (nI (cy 4)), .int (nI (cy 5)), .int (nI (cy 6)), .int (nI (cy 7)), .int (nI kp), .int (nI nc), .ref (cb 0), .ref (cb 1), .ref (cb 2), .ref (cb 3), .ref (cb 4), .ref (cb 5), .ref (cb 6), .ref (cb 7), .ref (cb 8), .ref (cb 9), .ref (cb 10), .ref (cb 11)], aM E (q 21) 8 (lyF Fs Ft t (cy 4) kf (cy 5)), aI E (q 23) 8 (gI (upN a c (y + 1 + 1))), aN E (q 24) 8 h]) rfl ?_
                  refine V.lvs [0, 1, 2, 3] rfl ?_
                  exact kn
            | true =>
              have hk0 : ¬ kpN cy Fs Ft t (h y ||| 2 ^ c) = 0 := of_decide_eq_true hko
              have hPe : exP (okS cy Fs Ft t) B men kx c h y = exB (okS cy Fs Ft t) B men kx (c + 1) (upN h y (h y ||| 2 ^ c)) := by unfold exP; rw [hko]; rfl
              have kn := ih (c + 1) (upN a c (y + 1)) (upN h y (h y ||| 2 ^ c)) (by omega) (fun j hj => by rw [upN_ne _ _ (by omega)]; exact ha j (by omega)) (up_lt hh) (fun q h9 => by (obtain ⟨e1, e2⟩ := ex_yes hBc hym hp (hPe.trans q)); rw [grX_b hBc e2]; exact kyes e1 h9) (fun q => BK1 c _ _ (by omega) hBc (RET (hPe.trans q)))
              refine v_aload_n X dX8_isSpread_102 rfl 0 rfl ?_
              refine v_get X kcX8 fl_X8_34 dX8_isSpread_103 0 rfl rfl ?_
              refine v_iload_n X dX8_isSpread_106 rfl 3 rfl ?_
              refine v_iald X dX8_isSpread_107 3 rfl (by omega) (by decide) ?_
              refine v_eqi (x' := nI y) (gI_m (upN_at _ _ _)) ?_
              refine v_iload_n X dX8_isSpread_108 rfl 2 rfl ?_
              refine v_icmpN_ge X dX8_isSpread_109 (tgt := 149) (by decide) (by omega) (by omega) (fun h109 => ?_) (fun h109 => ?_)
              · exfalso; omega
              · refine v_aload_n X dX8_isSpread_112 rfl 0 rfl ?_
                refine v_aload_n X dX8_isSpread_113 rfl 0 rfl ?_
                refine v_get X kcX8 fl_X8_37 dX8_isSpread_114 0 rfl rfl ?_
                refine v_aload_n X dX8_isSpread_117 rfl 0 rfl ?_
                refine v_get X kcX8 fl_X8_34 dX8_isSpread_118 0 rfl rfl ?_
                refine v_iload_n X dX8_isSpread_121 rfl 3 rfl ?_
                refine v_iald X dX8_isSpread_122 3 rfl (by omega) (by decide) ?_
                refine v_eqi (x' := nI y) (gI_m (upN_at _ _ _)) ?_
                refine v_iald X dX8_isSpread_123 4 rfl (by omega) (by decide) ?_
                refine v_iconst X dX8_isSpread_124 (v := nI 1) (by decide) ?_
                refine v_iload_n X dX8_isSpread_125 rfl 3 rfl ?_
                refine v_ishl X dX8_isSpread_126 ?_
                refine v_eqi (x' := nI (2 ^ c)) (nI_shl1 (by omega)) ?_
                refine v_ior X dX8_isSpread_127 ?_
                refine v_eqi (x' := nI ((h y) ||| (2 ^ c))) (fa_or _ _) ?_
                refine v_roL1 X (rn_V X k_X8_keepAll ml_X8_335 dX8_isSpread_128 (c_X8_keepAllL l E k th tr wh g rr q z nb wa wd al wl cy kp nc cb Fs Ft kf t ((h y) ||| (2 ^ c)) (by first | assumption | omega) (hor y)) rfl 0 rfl rfl (by decide) (by decide) (by omega) (by omega) (Nat.le_of_ble_eq_true rfl)) [0, 1, 2] rfl rfl ?_
                refine v_lconst X dX8_isSpread_131 (v := lN 0) (by decide) ?_
                refine v_lcmp X dX8_isSpread_132 ?_
                refine v_ifLN_ne X dX8_isSpread_133 (tgt := 149) (by decide) (kpN_lt hd _ _ _ _) (by decide) (fun h133 => ?_) (fun h133 => ?_)
                · refine v_aload_n X dX8_isSpread_149 rfl 0 rfl ?_
                  refine v_get X kcX8 fl_X8_34 dX8_isSpread_150 0 rfl rfl ?_
                  refine v_iload_n X dX8_isSpread_153 rfl 3 rfl ?_
                  refine v_iald X dX8_isSpread_154 3 rfl (by omega) (by decide) ?_
                  refine v_eqi (x' := nI y) (gI_m (upN_at _ _ _)) ?_
                  refine v_iload_n X dX8_isSpread_155 rfl 2 rfl ?_
                  refine v_icmpN_ge X dX8_isSpread_156 (tgt := 182) (by decide) (by omega) (by omega) (fun h156 => ?_) (fun h156 => ?_)
                  · exfalso; omega
                  · refine v_aload_n X dX8_isSpread_159 rfl 0 rfl ?_
                    refine v_get X kcX8 fl_X8_37 dX8_isSpread_160 0 rfl rfl ?_
                    refine v_aload_n X dX8_isSpread_163 rfl 0 rfl ?_
                    refine v_get X kcX8 fl_X8_34 dX8_isSpread_164 0 rfl rfl ?_
                    refine v_iload_n X dX8_isSpread_167 rfl 3 rfl ?_
                    refine v_iald X dX8_isSpread_168 3 rfl (by omega) (by decide) ?_
                    refine v_eqi (x' := nI y) (gI_m (upN_at _ _ _)) ?_
                    refine v_dup2 X dX8_isSpread_169 rfl rfl ?_
                    refine v_iald X dX8_isSpread_170 4 rfl (by omega) (by decide) ?_
                    refine v_iconst X dX8_isSpread_171 (v := nI 1) (by decide) ?_
                    refine v_iload_n X dX8_isSpread_172 rfl 3 rfl ?_
                    refine v_ishl X dX8_isSpread_173 ?_
                    refine v_eqi (x' := nI (2 ^ c)) (nI_shl1 (by omega)) ?_
                    refine v_ior X dX8_isSpread_174 ?_
                    refine v_eqi (x' := nI ((h y) ||| (2 ^ c))) (fa_or _ _) ?_
                    refine v_iast X dX8_isSpread_175 4 rfl (by omega) (by decide) (ws' := [ob k 8 [.int (nI th), .int (nI tr), .int wh, .ref g, va_rf rr, .ref (q 5), .int (nI (z 6)), .int (nI (z 7)), .int (nI (z 8)), .int (nI (z 9)), .int (nI (z 10)), .int nb, .int (nI (z 12)), .int wa, .long wd, .ref (q 15), .ref (q 16), .ref (q 17), .ref (q 18), .int (nI (z 19)), .int (nI (z 20)), .ref (q 21), .long (lN (allS (cy 4))), .ref (q 23), .ref (q 24), .int (nI (z 25)), .ref (q 26), .int al, .long wl, .int (nI (z 29))], ob g 7 [.int (nI (cy 0)), .int (nI (cy 1)), .int (nI (cy 2)), .int (nI (cy 3)), .int (nI (cy 4)), .int (nI (cy 5)), .int (nI (cy 6)), .int (nI (cy 7)), .int (nI kp), .int (nI nc), .ref (cb 0), .ref (cb 1), .ref (cb 2), .ref (cb 3), .ref (cb 4), .ref (cb 5), .ref (cb 6), .ref (cb 7), .ref (cb 8), .ref (cb 9), .ref (cb 10), .ref (cb 11)], aM E (q 21) 8 (lyF Fs Ft t (cy 4) kf (cy 5)), aI E (q 23) 8 (gI (upN a c (y + 1))), aN E (q 24) 8 (upN h y ((h y) ||| (2 ^ c)))]) (by rw [upd_nI]; rfl) ?_
                    refine v_iinc X dX8_isSpread_176 3 rfl (v := nI (c + 1)) (nI_inc c) (by decide) (lv' := [(3, .int (nI (c + 1))), (0, .ref k), (1, .int (nI B)), (2, .int (nI men))]) rfl ?_
                    refine v_goto X dX8_isSpread_179 (tgt := 34) (by decide) ?_
                    refine V.lvs [1, 2, 3, 0] rfl ?_
                    exact kn
                · exact absurd h133 hk0
        have kn := FIND men 0 (by omega) (fun m hm => absurd hm (Nat.not_lt_zero _))
        refine v_iload_n X dX8_isSpread_34 rfl 3 rfl ?_
        refine v_if_lt X dX8_isSpread_35 (tgt := 210) (by decide) (fun h35 => ?_) (fun h35 => ?_)
        · exact absurd h35 (nI_pos (by omega))
        · refine v_iload_n X dX8_isSpread_38 rfl 3 rfl ?_
          refine v_aload_n X dX8_isSpread_39 rfl 0 rfl ?_
          refine v_get X kcX8 fl_X8_306 dX8_isSpread_40 0 rfl rfl ?_
          refine v_getN X kcX7 fl_X8_240 dX8_isSpread_43 1 rfl rfl ?_
          refine v_icmpN_ge X dX8_isSpread_46 (tgt := 210) (by decide) (by omega) (by omega) (fun h46 => ?_) (fun h46 => ?_)
          · exfalso; omega
          · refine v_iload_n X dX8_isSpread_49 rfl 1 rfl ?_
            refine v_iload_n X dX8_isSpread_50 rfl 3 rfl ?_
            refine v_roI1 X (rn_S X k_X8_bit ml_X8_274 dX8_isSpread_51 (c_X8_bit l E B c (by omega) (by omega)) rfl (by decide) (by decide) (by omega) (by omega) (Nat.le_of_ble_eq_true rfl)) [] rfl rfl ?_
            refine v_ifB_ne X dX8_isSpread_54 (tgt := 63) (by decide) (fun h54 => ?_) (fun h54 => ?_)
            · refine v_aload_n X dX8_isSpread_63 rfl 0 rfl ?_
              refine v_get X kcX8 fl_X8_34 dX8_isSpread_64 0 rfl rfl ?_
              refine v_iload_n X dX8_isSpread_67 rfl 3 rfl ?_
              refine v_iald X dX8_isSpread_68 3 rfl (by omega) (by decide) ?_
              refine v_eqi (x' := (-1)) (gI_0 (ha c (Nat.le_refl _))) ?_
              refine v_iconst X dX8_isSpread_69 (v := (-1)) (by decide) ?_
              refine v_icmp_eq X dX8_isSpread_70 (tgt := 92) (by decide) (fun h70 => ?_) (fun h70 => ?_)
              · refine v_aload_n X dX8_isSpread_92 rfl 0 rfl ?_
                refine v_get X kcX8 fl_X8_34 dX8_isSpread_93 0 rfl rfl ?_
                refine v_iload_n X dX8_isSpread_96 rfl 3 rfl ?_
                refine v_dup2 X dX8_isSpread_97 rfl rfl ?_
                refine v_iald X dX8_isSpread_98 3 rfl (by omega) (by decide) ?_
                refine v_eqi (x' := (-1)) (gI_0 (ha c (Nat.le_refl _))) ?_
                refine v_iconst X dX8_isSpread_99 (v := nI 1) (by decide) ?_
                refine v_iadd X dX8_isSpread_100 ?_
                refine v_eqi (x' := nI (0 + 1) - 1) (by decide) ?_
                refine v_iast X dX8_isSpread_101 3 rfl (by omega) (by decide) (ws' := [ob k 8 [.int (nI th), .int (nI tr), .int wh, .ref g, va_rf rr, .ref (q 5), .int (nI (z 6)), .int (nI (z 7)), .int (nI (z 8)), .int (nI (z 9)), .int (nI (z 10)), .int nb, .int (nI (z 12)), .int wa, .long wd, .ref (q 15), .ref (q 16), .ref (q 17), .ref (q 18), .int (nI (z 19)), .int (nI (z 20)), .ref (q 21), .long (lN (allS (cy 4))), .ref (q 23), .ref (q 24), .int (nI (z 25)), .ref (q 26), .int al, .long wl, .int (nI (z 29))], ob g 7 [.int (nI (cy 0)), .int (nI (cy 1)), .int (nI (cy 2)), .int (nI (cy 3)), .int (nI (cy 4)), .int (nI (cy 5)), .int (nI (cy 6)), .int (nI (cy 7)), .int (nI kp), .int (nI nc), .ref (cb 0), .ref (cb 1), .ref (cb 2), .ref (cb 3), .ref (cb 4), .ref (cb 5), .ref (cb 6), .ref (cb 7), .ref (cb 8), .ref (cb 9), .ref (cb 10), .ref (cb 11)], aM E (q 21) 8 (lyF Fs Ft t (cy 4) kf (cy 5)), aI E (q 23) 8 (upd (gI a) c (nI (0 + 1) - 1)), aN E (q 24) 8 h]) rfl ?_
                refine V.arI 3 rfl (g' := gI (upN a c (0 + 1))) (fun j _ => by rw [gI_up]) (ws' := [ob k 8 [.int (nI th), .int (nI tr), .int wh, .ref g, va_rf rr, .ref (q 5), .int (nI (z 6)), .int (nI (z 7)), .int (nI (z 8)), .int (nI (z 9)), .int (nI (z 10)), .int nb, .int (nI (z 12)), .int wa, .long wd, .ref (q 15), .ref (q 16), .ref (q 17), .ref (q 18), .int (nI (z 19)), .int (nI (z 20)), .ref (q 21), .long (lN (allS (cy 4))), .ref (q 23), .ref (q 24), .int (nI (z 25)), .ref (q 26), .int al, .long wl, .int (nI (z 29))], ob g 7 [.int (nI (cy 0)), .int (nI (cy 1)), .int (nI (cy 2)), .int (nI (cy 3)), .int (nI (cy 4)), .int (nI (cy 5)), .int (nI (cy 6)), .int (nI (cy 7)), .int (nI kp), .int (nI nc), .ref (cb 0), .ref (cb 1), .ref (cb 2), .ref (cb 3), .ref (cb 4), .ref (cb 5), .ref (cb 6), .ref (cb 7), .ref (cb 8), .ref (cb 9), .ref (cb 10), .ref (cb 11)], aM E (q 21) 8 (lyF Fs Ft t (cy 4) kf (cy 5)), aI E (q 23) 8 (gI (upN a c (0 + 1))), aN E (q 24) 8 h]) rfl ?_
                refine V.lvs [0, 1, 2, 3] rfl ?_
                exact kn
              · exact absurd rfl h70
            · exact absurd h54 (by rw [hBc]; decide)
  have kn := SUB (cy 5) 0 (fun _ => 0) (fun _ => 0) (by omega) (fun _ _ => rfl) (fun _ => by decide) (fun q h9 => FIN h9 q) (fun q => BAD _ q)
  refine v_iconst X dX8_isSpread_0 (v := nI 0) (by decide) ?_
  refine v_istore_n X dX8_isSpread_1 rfl (by decide) (lv' := [(3, .int (nI 0)), (0, .ref k), (1, .int (nI B)), (2, .int (nI men))]) rfl ?_
  refine v_iconst X dX8_isSpread_2 (v := nI 0) (by decide) ?_
  refine v_istore X dX8_isSpread_3 (by decide) (lv' := [(4, .int (nI 0)), (3, .int (nI 0)), (0, .ref k), (1, .int (nI B)), (2, .int (nI men))]) rfl ?_
  have L5 : ∀ (j5 : Nat) (vk : Nat) (vg : Nat → Int32) (vh : Nat → Nat), (vk ≤ 8 ∧ (∀ j, j < vk → vg j = -1) ∧ ∀ j, j < vk → vh j = 0) → 8 - vk < j5 → V E Z 5 [(0, .ref k), (1, .int (nI B)), (2, .int (nI men)), (3, .int (nI 0)), (4, .int (nI vk))] [] [ob k 8 [.int (nI th), .int (nI tr), .int wh, .ref g, va_rf rr, .ref (q 5), .int (nI (z 6)), .int (nI (z 7)), .int (nI (z 8)), .int (nI (z 9)), .int (nI (z 10)), .int nb, .int (nI (z 12)), .int wa, .long wd, .ref (q 15), .ref (q 16), .ref (q 17), .ref (q 18), .int (nI (z 19)), .int (nI (z 20)), .ref (q 21), .long (lN (allS (cy 4))), .ref (q 23), .ref (q 24), .int (nI (z 25)), .ref (q 26), .int al, .long wl, .int (nI (z 29))], ob g 7 [.int (nI (cy 0)), .int (nI (cy 1)), .int (nI (cy 2)), .int (nI (cy 3)), .int (nI (cy 4)), .int (nI (cy 5)), .int (nI (cy 6)), .int (nI (cy 7)), .int (nI kp), .int (nI nc), .ref (cb 0), .ref (cb 1), .ref (cb 2), .ref (cb 3), .ref (cb 4), .ref (cb 5), .ref (cb 6), .ref (cb 7), .ref (cb 8), .ref (cb 9), .ref (cb 10), .ref (cb 11)], aM E (q 21) 8 (lyF Fs Ft t (cy 4) kf (cy 5)), aI E (q 23) 8 vg, aN E (q 24) 8 vh] 0 0 := by
    intro j5
    induction j5 with
    | zero => intro vk vg vh hI hM; exact absurd hM (Nat.not_lt_zero _)
    | succ j5 ih5 =>
      intro vk vg vh hI5 hM5
      obtain ⟨hck, hg1, hg2⟩ := id hI5
      refine v_iload X dX8_isSpread_5 4 rfl ?_
      refine v_bipush X dX8_isSpread_7 (v := nI 8) (by decide) ?_
      refine v_icmpN_ge X dX8_isSpread_9 (tgt := 34) (by decide) (by omega) (by decide) (fun h9 => ?_) (fun h9 => ?_)
      · refine V.arI 3 rfl (g' := gI (fun _ => 0)) (fun j hj => (hg1 j (by omega)).trans (gI_0 (a := fun _ => 0) (c := j) rfl).symm) (ws' := [ob k 8 [.int (nI th), .int (nI tr), .int wh, .ref g, va_rf rr, .ref (q 5), .int (nI (z 6)), .int (nI (z 7)), .int (nI (z 8)), .int (nI (z 9)), .int (nI (z 10)), .int nb, .int (nI (z 12)), .int wa, .long wd, .ref (q 15), .ref (q 16), .ref (q 17), .ref (q 18), .int (nI (z 19)), .int (nI (z 20)), .ref (q 21), .long (lN (allS (cy 4))), .ref (q 23), .ref (q 24), .int (nI (z 25)), .ref (q 26), .int al, .long wl, .int (nI (z 29))], ob g 7 [.int (nI (cy 0)), .int (nI (cy 1)), .int (nI (cy 2)), .int (nI (cy 3)), .int (nI (cy 4)), .int (nI (cy 5)), .int (nI (cy 6)), .int (nI (cy 7)), .int (nI kp), .int (nI nc), .ref (cb 0), .ref (cb 1), .ref (cb 2), .ref (cb 3), .ref (cb 4), .ref (cb 5), .ref (cb 6), .ref (cb 7), .ref (cb 8), .ref (cb 9), .ref (cb 10), .ref (cb 11)], aM E (q 21) 8 (lyF Fs Ft t (cy 4) kf (cy 5)), aI E (q 23) 8 (gI (fun _ => 0)), aN E (q 24) 8 vh]) rfl ?_
        refine V.arN 4 rfl (g' := fun _ => 0) (fun j hj => hg2 j (by omega)) (ws' := [ob k 8 [.int (nI th), .int (nI tr), .int wh, .ref g, va_rf rr, .ref (q 5), .int (nI (z 6)), .int (nI (z 7)), .int (nI (z 8)), .int (nI (z 9)), .int (nI (z 10)), .int nb, .int (nI (z 12)), .int wa, .long wd, .ref (q 15), .ref (q 16), .ref (q 17), .ref (q 18), .int (nI (z 19)), .int (nI (z 20)), .ref (q 21), .long (lN (allS (cy 4))), .ref (q 23), .ref (q 24), .int (nI (z 25)), .ref (q 26), .int al, .long wl, .int (nI (z 29))], ob g 7 [.int (nI (cy 0)), .int (nI (cy 1)), .int (nI (cy 2)), .int (nI (cy 3)), .int (nI (cy 4)), .int (nI (cy 5)), .int (nI (cy 6)), .int (nI (cy 7)), .int (nI kp), .int (nI nc), .ref (cb 0), .ref (cb 1), .ref (cb 2), .ref (cb 3), .ref (cb 4), .ref (cb 5), .ref (cb 6), .ref (cb 7), .ref (cb 8), .ref (cb 9), .ref (cb 10), .ref (cb 11)], aM E (q 21) 8 (lyF Fs Ft t (cy 4) kf (cy 5)), aI E (q 23) 8 (gI (fun _ => 0)), aN E (q 24) 8 (fun _ => 0)]) rfl ?_
        refine V.lvs [0, 1, 2, 3] rfl ?_
        exact kn
      · refine v_aload_n X dX8_isSpread_12 rfl 0 rfl ?_
        refine v_get X kcX8 fl_X8_34 dX8_isSpread_13 0 rfl rfl ?_
        refine v_iload X dX8_isSpread_16 4 rfl ?_
        refine v_iconst X dX8_isSpread_18 (v := (-1)) (by decide) ?_
        refine v_iast X dX8_isSpread_19 3 rfl (by omega) (by decide) (ws' := [ob k 8 [.int (nI th), .int (nI tr), .int wh, .ref g, va_rf rr, .ref (q 5), .int (nI (z 6)), .int (nI (z 7)), .int (nI (z 8)), .int (nI (z 9)), .int (nI (z 10)), .int nb, .int (nI (z 12)), .int wa, .long wd, .ref (q 15), .ref (q 16), .ref (q 17), .ref (q 18), .int (nI (z 19)), .int (nI (z 20)), .ref (q 21), .long (lN (allS (cy 4))), .ref (q 23), .ref (q 24), .int (nI (z 25)), .ref (q 26), .int al, .long wl, .int (nI (z 29))], ob g 7 [.int (nI (cy 0)), .int (nI (cy 1)), .int (nI (cy 2)), .int (nI (cy 3)), .int (nI (cy 4)), .int (nI (cy 5)), .int (nI (cy 6)), .int (nI (cy 7)), .int (nI kp), .int (nI nc), .ref (cb 0), .ref (cb 1), .ref (cb 2), .ref (cb 3), .ref (cb 4), .ref (cb 5), .ref (cb 6), .ref (cb 7), .ref (cb 8), .ref (cb 9), .ref (cb 10), .ref (cb 11)], aM E (q 21) 8 (lyF Fs Ft t (cy 4) kf (cy 5)), aI E (q 23) 8 (upd vg vk (-1)), aN E (q 24) 8 vh]) rfl ?_
        refine v_aload_n X dX8_isSpread_20 rfl 0 rfl ?_
        refine v_get X kcX8 fl_X8_37 dX8_isSpread_21 0 rfl rfl ?_
        refine v_iload X dX8_isSpread_24 4 rfl ?_
        refine v_iconst X dX8_isSpread_26 (v := nI 0) (by decide) ?_
        refine v_iast X dX8_isSpread_27 4 rfl (by omega) (by decide) (ws' := [ob k 8 [.int (nI th), .int (nI tr), .int wh, .ref g, va_rf rr, .ref (q 5), .int (nI (z 6)), .int (nI (z 7)), .int (nI (z 8)), .int (nI (z 9)), .int (nI (z 10)), .int nb, .int (nI (z 12)), .int wa, .long wd, .ref (q 15), .ref (q 16), .ref (q 17), .ref (q 18), .int (nI (z 19)), .int (nI (z 20)), .ref (q 21), .long (lN (allS (cy 4))), .ref (q 23), .ref (q 24), .int (nI (z 25)), .ref (q 26), .int al, .long wl, .int (nI (z 29))], ob g 7 [.int (nI (cy 0)), .int (nI (cy 1)), .int (nI (cy 2)), .int (nI (cy 3)), .int (nI (cy 4)), .int (nI (cy 5)), .int (nI (cy 6)), .int (nI (cy 7)), .int (nI kp), .int (nI nc), .ref (cb 0), .ref (cb 1), .ref (cb 2), .ref (cb 3), .ref (cb 4), .ref (cb 5), .ref (cb 6), .ref (cb 7), .ref (cb 8), .ref (cb 9), .ref (cb 10), .ref (cb 11)], aM E (q 21) 8 (lyF Fs Ft t (cy 4) kf (cy 5)), aI E (q 23) 8 (upd vg vk (-1)), aN E (q 24) 8 (upN vh vk 0)]) (by rw [upd_nI]; rfl) ?_
        refine v_iinc X dX8_isSpread_28 4 rfl (v := nI (vk + 1)) (nI_inc vk) (by decide) (lv' := [(4, .int (nI (vk + 1))), (0, .ref k), (1, .int (nI B)), (2, .int (nI men)), (3, .int (nI 0))]) rfl ?_
        refine v_goto X dX8_isSpread_31 (tgt := 5) (by decide) ?_
        refine V.lvs [1, 2, 3, 4, 0] rfl ?_
        exact ih5 (vk + 1) (upd vg vk (-1)) (upN vh vk 0) (⟨by omega, fillI (f := fun _ => -1) hg1 rfl, fillN (f := fun _ => 0) hg2 rfl⟩) (by omega)
  refine V.lvs [2, 3, 4, 1, 0] rfl ?_
  exact L5 _ 0 gt hg (⟨by omega, fun j hj => absurd hj (Nat.not_lt_zero j), fun j hj => absurd hj (Nat.not_lt_zero j)⟩) (Nat.lt_succ_self _)
