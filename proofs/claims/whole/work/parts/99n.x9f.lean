/-! the deeds of a line -/
def pc6 (s : Nat) : Nat := (s.testBit 0).toNat + (s.testBit 1).toNat + (s.testBit 2).toNat + (s.testBit 3).toNat + (s.testBit 4).toNat + (s.testBit 5).toNat
theorem pc6_le : ∀ s, s < 64 → pc6 s ≤ 6 := by decide +kernel
theorem pc6_up : ∀ s, s < 64 → ∀ d, d < 6 → s.testBit d = false → pc6 (s ||| 2 ^ d) = pc6 s + 1 ∧ s ||| 2 ^ d < 64 := by decide +kernel
theorem ds_u {tp : Nat → Int32} {en : Nat} {kwd : Nat → Int64} {nm : Rnm} {n s : Nat} {k : Tk} (h : 1 ≤ n) : dsF tp en kwd nm n s k = sb (pnS tp en kwd 2 s nm k) fun d => if d.2.1 = 4 then dsF tp en kwd nm (n - 1) (s ||| 2 ^ d.1) (advK tp en d.2) else .inr (s ||| 2 ^ d.1, d.2) := by
  obtain ⟨m, rfl⟩ : ∃ m, n = m + 1 := ⟨n - 1, by omega⟩
  rfl
theorem ds_no {tp : Nat → Int32} {en : Nat} {kwd : Nat → Int64} {nm : Rnm} {n s f p : Nat} {k : Tk} (h : 1 ≤ n) (h2 : knS kwd 2 nm k = .inl (f, p)) : dsF tp en kwd nm n s k = .inl (f, p) := by
  rw [ds_u h, pn_kn, h2, sb_e, sb_e]
theorem ds_ag {tp : Nat → Int32} {en : Nat} {kwd : Nat → Int64} {nm : Rnm} {n s x : Nat} {k : Tk} (h : 1 ≤ n) (h2 : knS kwd 2 nm k = .inr x) (h3 : s.testBit x = true) : dsF tp en kwd nm n s k = .inl (3, k.2.1) := by
  rw [ds_u h, pn_kn, h2, sb_k, if_pos h3, sb_e]
theorem ds_go {tp : Nat → Int32} {en : Nat} {kwd : Nat → Int64} {nm : Rnm} {n s x : Nat} {k : Tk} (h : 1 ≤ n) (h2 : knS kwd 2 nm k = .inr x) (h3 : s.testBit x = false) (h4 : (advK tp en k).1 = 4) : dsF tp en kwd nm n s k = dsF tp en kwd nm (n - 1) (s ||| 2 ^ x) (advK tp en (advK tp en k)) := by
  rw [ds_u h, pn_kn, h2, sb_k, if_neg (by rw [h3]; decide), sb_k]
  exact if_pos h4
theorem ds_en {tp : Nat → Int32} {en : Nat} {kwd : Nat → Int64} {nm : Rnm} {n s x : Nat} {k : Tk} (h : 1 ≤ n) (h2 : knS kwd 2 nm k = .inr x) (h3 : s.testBit x = false) (h4 : ¬ (advK tp en k).1 = 4) : dsF tp en kwd nm n s k = .inr (s ||| 2 ^ x, advK tp en k) := by
  rw [ds_u h, pn_kn, h2, sb_k, if_neg (by rw [h3]; decide), sb_k]
  exact if_neg h4
theorem t8_1 {k : Tk} {so pl sp : Nat} {wd : Int64} {nb : Int32} (h : T8 k so pl sp wd nb) : so = 1 ↔ k.1 = 0 := by
  obtain ⟨-, h⟩ := h
  rcases h with h | h | h | h | h | h
  · exact ⟨fun _ => h.1, fun _ => h.2.1⟩
  · constructor <;> intro z <;> omega
  · constructor <;> intro z <;> omega
  · constructor <;> intro z <;> omega
  · constructor <;> intro z <;> omega
  · constructor <;> intro z <;> omega
theorem t8_nz {k : Tk} {so pl sp : Nat} {wd : Int64} {nb : Int32} (h : T8 k so pl sp wd nb) (h1 : ¬ so = 1) (h2 : ¬ (so = 4 ∧ nb = nI 59)) : ¬ (k.1 = 0 ∨ k.1 = 3) := by
  rintro (z | z)
  · exact h1 ((t8_1 h).mpr z)
  · exact h2 ((t8_sg h (Or.inl ⟨rfl, rfl⟩)).mpr z)
theorem kn_2l {k : Tk} {x D : Nat} {kwd : Nat → Int64} {nm : Rnm} (hd : ∀ i, i < nm.1 → nm.2.2.1 i = 2 → nm.2.2.2 i < D) (h : knS kwd 2 nm k = .inr x) : x < D := by
  unfold knS at h
  split at h
  · split at h
    · cases h
    · rename_i q hq
      split at h
      · rename_i h3
        have hl := (fst_lt _ _ _ hq).1
        cases h
        exact hd q (by omega) h3
      · cases h
  · cases h
set_option maxRecDepth 100000 in
set_option maxHeartbeats 4000000 in
theorem c_X8_readDeeds_o (l : Launch) (E : Et) (k : Nat) (th : Nat) (tr : Nat) (wh : Int32) (g : Option Nat) (rr : Option Nat) (q : Nat → Nat) (z : Nat → Nat) (nb : Int32) (wa : Int32) (wd : Int64) (ev : Nat) (al : Int32) (wl : Int64)  : Ct l E yX8_readDeeds cX8_readDeeds 4 (some .int) 8 0 0 [.ref k] [ob k 8 [.int (nI th), .int (nI tr), .int wh, va_rf g, va_rf rr, .ref (q 5), .int (nI (z 6)), .int (nI (z 7)), .int (nI (z 8)), .int (nI 5), .int (nI (z 10)), .int nb, .int (nI (z 12)), .int wa, .long wd, .ref (q 15), .ref (q 16), .ref (q 17), .ref (q 18), .int (nI (z 19)), .int (nI (z 20)), .ref (q 21), .long (lN ev), .ref (q 23), .ref (q 24), .int (nI (z 25)), .ref (q 26), .int al, .long wl, .int (nI (z 29))]] (roI [ob k 8 [.int (nI th), .int (nI tr), .int wh, va_rf g, va_rf rr, .ref (q 5), .int (nI (z 6)), .int (nI (z 7)), .int (nI (z 8)), .int (nI 5), .int (nI (z 10)), .int nb, .int (nI (z 12)), .int wa, .long wd, .ref (q 15), .ref (q 16), .ref (q 17), .ref (q 18), .int (nI (z 19)), .int (nI (z 20)), .ref (q 21), .long (lN ev), .ref (q 23), .ref (q 24), .int (nI (z 25)), .ref (q 26), .int al, .long wl, .int (nI (z 29))]] (nI 0)) := by
  refine Ct.intro (by decide +kernel) (Nat.le_of_ble_eq_true rfl) (lv := [(0, .ref k)]) rfl ?_
  intro Z X Y
  refine v_iconst X dX8_readDeeds_0 (v := nI 0) (by decide) ?_
  refine v_istore_n X dX8_readDeeds_1 rfl (by decide) (lv' := [(1, .int (nI 0)), (0, .ref k)]) rfl ?_
  refine v_aload_n X dX8_readDeeds_2 rfl 1 rfl ?_
  refine v_get X kcX8 fl_X8_75 dX8_readDeeds_3 0 rfl rfl ?_
  refine v_iconst X dX8_readDeeds_6 (v := nI 1) (by decide) ?_
  refine v_icmpN_eq X dX8_readDeeds_7 (tgt := 39) (by decide) (by decide) (by decide) (fun h7 => ?_) (fun h7 => ?_)
  · exfalso; omega
  · refine v_aload_n X dX8_readDeeds_10 rfl 1 rfl ?_
    refine v_get X kcX8 fl_X8_75 dX8_readDeeds_11 0 rfl rfl ?_
    refine v_iconst X dX8_readDeeds_14 (v := nI 5) (by decide) ?_
    refine v_icmpN_eq X dX8_readDeeds_15 (tgt := 39) (by decide) (by decide) (by decide) (fun h15 => ?_) (fun h15 => ?_)
    · refine v_iconst X dX8_readDeeds_39 (v := nI 0) (by decide) ?_
      refine v_istore_n X dX8_readDeeds_40 rfl (by decide) (lv' := [(2, .int (nI 0)), (1, .int (nI 0)), (0, .ref k)]) rfl ?_
      refine v_iload_n X dX8_readDeeds_41 rfl 0 rfl ?_
      refine v_ifN_eq X dX8_readDeeds_42 (tgt := 92) (by decide) (by decide) (fun h42 => ?_) (fun h42 => ?_)
      · refine v_iload_n X dX8_readDeeds_92 rfl 1 rfl ?_
        exact v_iret X Y dX8_readDeeds_93 (roI_of rfl) (by omega) (by omega)
      · exfalso; omega
    · exfalso; omega
set_option maxRecDepth 100000 in
set_option maxHeartbeats 4000000 in
theorem c_X8_readDeedsL (l : Launch) (E : Et) (k : Nat) (th : Nat) (tr : Nat) (wh : Int32) (g : Option Nat) (q : Nat → Nat) (z : Nat → Nat) (nb : Int32) (wa : Int32) (wd : Int64) (ev : Nat) (al : Int32) (wl : Int64) (sz : Nat) (sp : Nat) (so : Nat) (pl : Nat) (tp : Nat → Int32) (tk : Tk) (kwd : Nat → Int64) (gr7 : Nat) (cy : Nat → Nat) (bl : Int32) (kp : Nat) (nc : Nat) (cb : Nat → Nat) (na : Nat → Int64) (ns : Nat → Nat) (nu : Nat → Nat) (nm : Rnm) (hkw : ∀ s, s < 6 → kwd s = lN (pkS 27 s)) (hT8 : T8 tk so pl sp wd nb) (htO : tkO sz tk) (hso : so ≤ 4) (hsz : sz ≤ 900) (hby : byT tp) (hNR : NR nm nc na ns nu) (hnc : nc ≤ 18) (hns : ∀ i, i < nc → ns i ≤ 4) (hd6 : ∀ i, i < nm.1 → nm.2.2.1 i = 2 → nm.2.2.2 i < 6) : Ct l E yX8_readDeeds cX8_readDeeds 4 (some .int) 8 0 0 [.ref k] [ob k 8 [.int (nI th), .int (nI tr), .int wh, va_rf g, .ref gr7, .ref (q 5), .int (nI (z 6)), .int (nI sz), .int (nI sp), .int (nI so), .int (nI pl), .int nb, .int (nI (z 12)), .int wa, .long wd, .ref (q 15), .ref (q 16), .ref (q 17), .ref (q 18), .int (nI (z 19)), .int (nI (z 20)), .ref (q 21), .long (lN ev), .ref (q 23), .ref (q 24), .int (nI (z 25)), .ref (q 26), .int al, .long wl, .int (nI (z 29))], aB E (q 5) 900 tp, ob gr7 7 [.int bl, .int (nI (cy 1)), .int (nI (cy 2)), .int (nI (cy 3)), .int (nI (cy 4)), .int (nI (cy 5)), .int (nI (cy 6)), .int (nI (cy 7)), .int (nI kp), .int (nI nc), .ref (cb 0), .ref (cb 1), .ref (cb 2), .ref (cb 3), .ref (cb 4), .ref (cb 5), .ref (cb 6), .ref (cb 7), .ref (cb 8), .ref (cb 9), .ref (cb 10), .ref (cb 11)], aL E (cb 9) 18 na, aN E (cb 10) 18 ns, aN E (cb 11) 18 nu] ((fun r w => (∃ (x : Nat) (tk1 : Tk) (so1 : Nat) (pl1 : Nat) (sp1 : Nat) (wd1 : Int64) (nb1 : Int32), (setF tp sz kwd nm tk = .inr (x, tk1)) ∧ (T8 tk1 so1 pl1 sp1 wd1 nb1) ∧ (tkO sz tk1) ∧ (so1 ≤ 4) ∧ (x < 64) ∧ w = [ob k 8 [.int (nI th), .int (nI tr), .int wh, va_rf g, .ref gr7, .ref (q 5), .int (nI (z 6)), .int (nI sz), .int (nI sp1), .int (nI so1), .int (nI pl1), .int nb1, .int (nI (z 12)), .int wa, .long wd1, .ref (q 15), .ref (q 16), .ref (q 17), .ref (q 18), .int (nI (z 19)), .int (nI (z 20)), .ref (q 21), .long (lN ev), .ref (q 23), .ref (q 24), .int (nI (z 25)), .ref (q 26), .int al, .long wl, .int (nI (z 29))], aB E (q 5) 900 tp, ob gr7 7 [.int bl, .int (nI (cy 1)), .int (nI (cy 2)), .int (nI (cy 3)), .int (nI (cy 4)), .int (nI (cy 5)), .int (nI (cy 6)), .int (nI (cy 7)), .int (nI kp), .int (nI nc), .ref (cb 0), .ref (cb 1), .ref (cb 2), .ref (cb 3), .ref (cb 4), .ref (cb 5), .ref (cb 6), .ref (cb 7), .ref (cb 8), .ref (cb 9), .ref (cb 10), .ref (cb 11)], aL E (cb 9) 18 na, aN E (cb 10) 18 ns, aN E (cb 11) 18 nu] ∧ r = some (.int (nI x))) ∨ (∃ (x : Nat) (f : Nat) (p : Nat) (pl1 : Nat) (sp1 : Nat) (wd1 : Int64) (nb1 : Int32), (setF tp sz kwd nm tk = .inl (f, p)) ∧ w = [ob k 8 [.int (nI th), .int (nI tr), .int wh, va_rf g, .ref gr7, .ref (q 5), .int (nI (z 6)), .int (nI sz), .int (nI sp1), .int (nI 5), .int (nI pl1), .int nb1, .int (nI f), .int (nI p), .long wd1, .ref (q 15), .ref (q 16), .ref (q 17), .ref (q 18), .int (nI (z 19)), .int (nI (z 20)), .ref (q 21), .long (lN ev), .ref (q 23), .ref (q 24), .int (nI (z 25)), .ref (q 26), .int al, .long wl, .int (nI (z 29))], aB E (q 5) 900 tp, ob gr7 7 [.int bl, .int (nI (cy 1)), .int (nI (cy 2)), .int (nI (cy 3)), .int (nI (cy 4)), .int (nI (cy 5)), .int (nI (cy 6)), .int (nI (cy 7)), .int (nI kp), .int (nI nc), .ref (cb 0), .ref (cb 1), .ref (cb 2), .ref (cb 3), .ref (cb 4), .ref (cb 5), .ref (cb 6), .ref (cb 7), .ref (cb 8), .ref (cb 9), .ref (cb 10), .ref (cb 11)], aL E (cb 9) 18 na, aN E (cb 10) 18 ns, aN E (cb 11) 18 nu] ∧ r = some (.int (nI x))))) := by
  refine Ct.intro (by decide +kernel) (Nat.le_of_ble_eq_true rfl) (lv := [(0, .ref k)]) rfl ?_
  intro Z X Y
  refine v_iconst X dX8_readDeeds_0 (v := nI 0) (by decide) ?_
  refine v_istore_n X dX8_readDeeds_1 rfl (by decide) (lv' := [(1, .int (nI 0)), (0, .ref k)]) rfl ?_
  refine v_aload_n X dX8_readDeeds_2 rfl 1 rfl ?_
  refine v_get X kcX8 fl_X8_75 dX8_readDeeds_3 0 rfl rfl ?_
  refine v_iconst X dX8_readDeeds_6 (v := nI 1) (by decide) ?_
  refine v_icmpN_eq X dX8_readDeeds_7 (tgt := 39) (by decide) (by omega) (by decide) (fun h7 => ?_) (fun h7 => ?_)
  · refine v_iconst X dX8_readDeeds_39 (v := nI 0) (by decide) ?_
    refine v_istore_n X dX8_readDeeds_40 rfl (by decide) (lv' := [(2, .int (nI 0)), (1, .int (nI 0)), (0, .ref k)]) rfl ?_
    refine v_iload_n X dX8_readDeeds_41 rfl 0 rfl ?_
    refine v_ifN_eq X dX8_readDeeds_42 (tgt := 92) (by decide) (by decide) (fun h42 => ?_) (fun h42 => ?_)
    · refine v_iload_n X dX8_readDeeds_92 rfl 1 rfl ?_
      exact v_iret X Y dX8_readDeeds_93 (Or.inl ⟨0, tk, so, pl, sp, wd, nb, (if_pos (Or.inl ((t8_1 hT8).mp h7))), (hT8), (htO), (hso), (by decide), rfl, rfl⟩) (by omega) (by omega)
    · exfalso; omega
  · refine v_aload_n X dX8_readDeeds_10 rfl 1 rfl ?_
    refine v_get X kcX8 fl_X8_75 dX8_readDeeds_11 0 rfl rfl ?_
    refine v_iconst X dX8_readDeeds_14 (v := nI 5) (by decide) ?_
    refine v_icmpN_eq X dX8_readDeeds_15 (tgt := 39) (by decide) (by omega) (by decide) (fun h15 => ?_) (fun h15 => ?_)
    · exfalso; omega
    · refine v_aload_n X dX8_readDeeds_18 rfl 1 rfl ?_
      refine v_get X kcX8 fl_X8_75 dX8_readDeeds_19 0 rfl rfl ?_
      refine v_iconst X dX8_readDeeds_22 (v := nI 4) (by decide) ?_
      refine v_icmpN_ne X dX8_readDeeds_23 (tgt := 35) (by decide) (by omega) (by decide) (fun h23 => ?_) (fun h23 => ?_)
      · refine v_iconst X dX8_readDeeds_35 (v := nI 1) (by decide) ?_
        refine v_goto X dX8_readDeeds_36 (tgt := 40) (by decide) ?_
        refine v_istore_n X dX8_readDeeds_40 rfl (by decide) (lv' := [(2, .int (nI 1)), (1, .int (nI 0)), (0, .ref k)]) rfl ?_
        have L41 : ∀ (j41 : Nat) (vS : Nat) (vO : Nat) (vP : Nat) (vQ : Nat) (vB : Int32) (vW : Int64), (vS < 64 ∧ vO ≤ 4 ∧ ∃ vN vT, vN + pc6 vS = 7 ∧ setF tp sz kwd nm tk = dsF tp sz kwd nm vN vS vT ∧ T8 vT vO vP vQ vW vB ∧ tkO sz vT) → 7 - pc6 vS < j41 → V E Z 41 [(0, .ref k), (1, .int (nI vS)), (2, .int (nI 1))] [] [ob k 8 [.int (nI th), .int (nI tr), .int wh, va_rf g, .ref gr7, .ref (q 5), .int (nI (z 6)), .int (nI sz), .int (nI vQ), .int (nI vO), .int (nI vP), .int vB, .int (nI (z 12)), .int wa, .long vW, .ref (q 15), .ref (q 16), .ref (q 17), .ref (q 18), .int (nI (z 19)), .int (nI (z 20)), .ref (q 21), .long (lN ev), .ref (q 23), .ref (q 24), .int (nI (z 25)), .ref (q 26), .int al, .long wl, .int (nI (z 29))], aB E (q 5) 900 tp, ob gr7 7 [.int bl, .int (nI (cy 1)), .int (nI (cy 2)), .int (nI (cy 3)), .int (nI (cy 4)), .int (nI (cy 5)), .int (nI (cy 6)), .int (nI (cy 7)), .int (nI kp), .int (nI nc), .ref (cb 0), .ref (cb 1), .ref (cb 2), .ref (cb 3), .ref (cb 4), .ref (cb 5), .ref (cb 6), .ref (cb 7), .ref (cb 8), .ref (cb 9), .ref (cb 10), .ref (cb 11)], aL E (cb 9) 18 na, aN E (cb 10) 18 ns, aN E (cb 11) 18 nu] 0 0 := by
          intro j41
          induction j41 with
          | zero => intro vS vO vP vQ vB vW hI hM; exact absurd hM (Nat.not_lt_zero _)
          | succ j41 ih41 =>
            intro vS vO vP vQ vB vW hI41 hM41
            obtain ⟨hvS, hvO, vN, vT, hvN, hq, hTv, hOv⟩ := id hI41
            refine v_iload_n X dX8_readDeeds_41 rfl 2 rfl ?_
            refine v_ifN_eq X dX8_readDeeds_42 (tgt := 92) (by decide) (by decide) (fun h42 => ?_) (fun h42 => ?_)
            · exfalso; omega
            · refine v_aload_n X dX8_readDeeds_45 rfl 0 rfl ?_
              refine v_iconst X dX8_readDeeds_46 (v := nI 1) (by decide) ?_
              refine v_wr X (rn_V X k_X8_knownOne ml_X8_171 dX8_readDeeds_47 (c_X8_knownOneL l E k th tr wh g q z vB wa vW ev al wl sz vQ vO vP tp vT kwd gr7 cy bl kp nc cb na ns nu nm 1 (by first | assumption | omega) (hTv) (hvO) (by first | assumption | omega) (by first | assumption | omega) (by first | assumption | omega) (by decide)) rfl 0 rfl rfl (by decide) (by decide) (by omega) (by omega) (Nat.le_of_ble_eq_true rfl)) [0, 2, 3, 4, 5] rfl rfl (fun r w1 hpo => ?_)
              rcases hpo with ⟨x_47, hW_47, rfl, rfl⟩ | ⟨f_47, p_47, hW_47, rfl, rfl⟩
              · refine ⟨rfl, ?_⟩
                refine V.cast (st' := [.int (nI x_47)]) (ws' := [ob k 8 [.int (nI th), .int (nI tr), .int wh, va_rf g, .ref gr7, .ref (q 5), .int (nI (z 6)), .int (nI sz), .int (nI vQ), .int (nI vO), .int (nI vP), .int vB, .int (nI (z 12)), .int wa, .long vW, .ref (q 15), .ref (q 16), .ref (q 17), .ref (q 18), .int (nI (z 19)), .int (nI (z 20)), .ref (q 21), .long (lN ev), .ref (q 23), .ref (q 24), .int (nI (z 25)), .ref (q 26), .int al, .long wl, .int (nI (z 29))], aB E (q 5) 900 tp, ob gr7 7 [.int bl, .int (nI (cy 1)), .int (nI (cy 2)), .int (nI (cy 3)), .int (nI (cy 4)), .int (nI (cy 5)), .int (nI (cy 6)), .int (nI (cy 7)), .int (nI kp), .int (nI nc), .ref (cb 0), .ref (cb 1), .ref (cb 2), .ref (cb 3), .ref (cb 4), .ref (cb 5), .ref (cb 6), .ref (cb 7), .ref (cb 8), .ref (cb 9), .ref (cb 10), .ref (cb 11)], aL E (cb 9) 18 na, aN E (cb 10) 18 ns, aN E (cb 11) 18 nu]) rfl rfl rfl ?_
                have hx6 : x_47 < 6 := kn_2l hd6 (show knS kwd 2 nm vT = _ from hW_47)
                have hspe : vQ = vT.2.2.1 := t8_sp hTv (kn_so hTv hW_47)
                have hpl := pc6_le vS hvS
                refine v_istore_n X dX8_readDeeds_50 rfl (by decide) (lv' := [(3, .int (nI x_47)), (0, .ref k), (1, .int (nI vS)), (2, .int (nI 1))]) rfl ?_
                refine v_aload_n X dX8_readDeeds_51 rfl 1 rfl ?_
                refine v_get X kcX8 fl_X8_75 dX8_readDeeds_52 0 rfl rfl ?_
                refine v_iconst X dX8_readDeeds_55 (v := nI 5) (by decide) ?_
                refine v_icmpN_eq X dX8_readDeeds_56 (tgt := 72) (by decide) (by omega) (by decide) (fun h56 => ?_) (fun h56 => ?_)
                · exfalso; omega
                · refine v_iload_n X dX8_readDeeds_59 rfl 2 rfl ?_
                  refine v_iload_n X dX8_readDeeds_60 rfl 0 rfl ?_
                  refine v_roI1 X (rn_S X k_X8_bit ml_X8_274 dX8_readDeeds_61 (c_X8_bit l E vS x_47 (by omega) (by omega)) rfl (by decide) (by decide) (by omega) (by omega) (Nat.le_of_ble_eq_true rfl)) [] rfl rfl ?_
                  refine v_ifB_eq X dX8_readDeeds_64 (tgt := 72) (by decide) (fun h64 => ?_) (fun h64 => ?_)
                  · refine v_iload_n X dX8_readDeeds_72 rfl 2 rfl ?_
                    refine v_iconst X dX8_readDeeds_73 (v := nI 1) (by decide) ?_
                    refine v_iload_n X dX8_readDeeds_74 rfl 0 rfl ?_
                    refine v_ishl X dX8_readDeeds_75 ?_
                    refine v_eqi (x' := nI (2 ^ x_47)) (nI_shl1 (by omega)) ?_
                    refine v_ior X dX8_readDeeds_76 ?_
                    refine v_eqi (x' := nI (vS ||| (2 ^ x_47))) (fa_or _ _) ?_
                    refine v_istore_n X dX8_readDeeds_77 rfl (by decide) (lv' := [(1, .int (nI (vS ||| (2 ^ x_47)))), (3, .int (nI x_47)), (0, .ref k), (2, .int (nI 1))]) rfl ?_
                    refine v_aload_n X dX8_readDeeds_78 rfl 2 rfl ?_
                    refine v_wr X (rn_V X k_X8_goesOn ml_X8_111 dX8_readDeeds_79 (c_X8_goesOnL l E k th tr wh g (some gr7) q z vB wa vW ev al wl sz vQ vO vP tp vT.2.2.2 (hvO) (by first | assumption | omega) (by rw [hspe]; exact hOv.2.2.1) (by first | assumption | omega)) rfl 0 rfl rfl (by decide) (by decide) (by omega) (by omega) (Nat.le_of_ble_eq_true rfl)) [0, 1] rfl rfl (fun r w1 hpo => ?_)
                    rcases hpo with ⟨so1_79, pl1_79, sp1_79, wd1_79, nb1_79, hT8_79, hs1_79, hs4_79, rfl, rfl⟩
                    · refine ⟨rfl, ?_⟩
                      refine V.cast (st' := []) (ws' := [ob k 8 [.int (nI th), .int (nI tr), .int wh, va_rf g, .ref gr7, .ref (q 5), .int (nI (z 6)), .int (nI sz), .int (nI sp1_79), .int (nI so1_79), .int (nI pl1_79), .int nb1_79, .int (nI (z 12)), .int wa, .long wd1_79, .ref (q 15), .ref (q 16), .ref (q 17), .ref (q 18), .int (nI (z 19)), .int (nI (z 20)), .ref (q 21), .long (lN ev), .ref (q 23), .ref (q 24), .int (nI (z 25)), .ref (q 26), .int al, .long wl, .int (nI (z 29))], aB E (q 5) 900 tp, ob gr7 7 [.int bl, .int (nI (cy 1)), .int (nI (cy 2)), .int (nI (cy 3)), .int (nI (cy 4)), .int (nI (cy 5)), .int (nI (cy 6)), .int (nI (cy 7)), .int (nI kp), .int (nI nc), .ref (cb 0), .ref (cb 1), .ref (cb 2), .ref (cb 3), .ref (cb 4), .ref (cb 5), .ref (cb 6), .ref (cb 7), .ref (cb 8), .ref (cb 9), .ref (cb 10), .ref (cb 11)], aL E (cb 9) 18 na, aN E (cb 10) 18 ns, aN E (cb 11) 18 nu]) rfl rfl rfl ?_
                      have hTg : T8 (advK tp sz vT) so1_79 pl1_79 sp1_79 wd1_79 nb1_79 := by have h9 := hT8_79; rw [hspe] at h9; exact h9
                      refine v_aload_n X dX8_readDeeds_82 rfl 2 rfl ?_
                      refine v_bipush X dX8_readDeeds_83 (v := nI 44) (by decide) ?_
                      refine v_wr X (rn_V X k_X8_eats ml_X8_177 dX8_readDeeds_85 (c_X8_eatsL l E k th tr wh g (some gr7) q z nb1_79 wa wd1_79 ev al wl sz sp1_79 so1_79 pl1_79 tp (advK tp sz vT) 44 4 (hTg) ((advK_ok hOv).1) (hs4_79) (by first | assumption | omega) (by first | assumption | omega) (Or.inr ⟨rfl, rfl⟩)) rfl 0 rfl rfl (by decide) (by decide) (by omega) (by omega) (Nat.le_of_ble_eq_true rfl)) [0, 1] rfl rfl (fun r w1 hpo => ?_)
                      rcases hpo with ⟨tk1_85, so1_85, pl1_85, sp1_85, wd1_85, nb1_85, hK_85, hA_85, hT_85, hU_85, hS_85, rfl, rfl⟩ | ⟨hK_85, rfl, rfl⟩
                      · refine ⟨rfl, ?_⟩
                        refine V.cast (st' := [.int (nI 1)]) (ws' := [ob k 8 [.int (nI th), .int (nI tr), .int wh, va_rf g, .ref gr7, .ref (q 5), .int (nI (z 6)), .int (nI sz), .int (nI sp1_85), .int (nI so1_85), .int (nI pl1_85), .int nb1_85, .int (nI (z 12)), .int wa, .long wd1_85, .ref (q 15), .ref (q 16), .ref (q 17), .ref (q 18), .int (nI (z 19)), .int (nI (z 20)), .ref (q 21), .long (lN ev), .ref (q 23), .ref (q 24), .int (nI (z 25)), .ref (q 26), .int al, .long wl, .int (nI (z 29))], aB E (q 5) 900 tp, ob gr7 7 [.int bl, .int (nI (cy 1)), .int (nI (cy 2)), .int (nI (cy 3)), .int (nI (cy 4)), .int (nI (cy 5)), .int (nI (cy 6)), .int (nI (cy 7)), .int (nI kp), .int (nI nc), .ref (cb 0), .ref (cb 1), .ref (cb 2), .ref (cb 3), .ref (cb 4), .ref (cb 5), .ref (cb 6), .ref (cb 7), .ref (cb 8), .ref (cb 9), .ref (cb 10), .ref (cb 11)], aL E (cb 9) 18 na, aN E (cb 10) 18 ns, aN E (cb 11) 18 nu]) rfl rfl rfl ?_
                        refine v_istore_n X dX8_readDeeds_88 rfl (by decide) (lv' := [(2, .int (nI 1)), (1, .int (nI (vS ||| (2 ^ x_47)))), (3, .int (nI x_47)), (0, .ref k)]) rfl ?_
                        refine v_goto X dX8_readDeeds_89 (tgt := 41) (by decide) ?_
                        refine V.lvs [3, 1, 0] rfl ?_
                        exact ih41 (vS ||| (2 ^ x_47)) so1_85 pl1_85 sp1_85 nb1_85 wd1_85 (⟨(pc6_up vS hvS x_47 hx6 h64).2, hS_85, vN - 1, _, by have := (pc6_up vS hvS x_47 hx6 h64).1; omega, hq.trans (ds_go (by omega) (show knS kwd 2 nm vT = _ from hW_47) h64 hK_85), by rw [hA_85]; exact hT_85, by rw [hA_85]; exact hU_85⟩) (by have := (pc6_up vS hvS x_47 hx6 h64).1; omega)
                      · refine ⟨rfl, ?_⟩
                        refine V.cast (st' := [.int (nI 0)]) (ws' := [ob k 8 [.int (nI th), .int (nI tr), .int wh, va_rf g, .ref gr7, .ref (q 5), .int (nI (z 6)), .int (nI sz), .int (nI sp1_79), .int (nI so1_79), .int (nI pl1_79), .int nb1_79, .int (nI (z 12)), .int wa, .long wd1_79, .ref (q 15), .ref (q 16), .ref (q 17), .ref (q 18), .int (nI (z 19)), .int (nI (z 20)), .ref (q 21), .long (lN ev), .ref (q 23), .ref (q 24), .int (nI (z 25)), .ref (q 26), .int al, .long wl, .int (nI (z 29))], aB E (q 5) 900 tp, ob gr7 7 [.int bl, .int (nI (cy 1)), .int (nI (cy 2)), .int (nI (cy 3)), .int (nI (cy 4)), .int (nI (cy 5)), .int (nI (cy 6)), .int (nI (cy 7)), .int (nI kp), .int (nI nc), .ref (cb 0), .ref (cb 1), .ref (cb 2), .ref (cb 3), .ref (cb 4), .ref (cb 5), .ref (cb 6), .ref (cb 7), .ref (cb 8), .ref (cb 9), .ref (cb 10), .ref (cb 11)], aL E (cb 9) 18 na, aN E (cb 10) 18 ns, aN E (cb 11) 18 nu]) rfl rfl rfl ?_
                        refine v_istore_n X dX8_readDeeds_88 rfl (by decide) (lv' := [(2, .int (nI 0)), (1, .int (nI (vS ||| (2 ^ x_47)))), (3, .int (nI x_47)), (0, .ref k)]) rfl ?_
                        refine v_goto X dX8_readDeeds_89 (tgt := 41) (by decide) ?_
                        refine v_iload_n X dX8_readDeeds_41 rfl 0 rfl ?_
                        refine v_ifN_eq X dX8_readDeeds_42 (tgt := 92) (by decide) (by decide) (fun h42 => ?_) (fun h42 => ?_)
                        · refine v_iload_n X dX8_readDeeds_92 rfl 1 rfl ?_
                          exact v_iret X Y dX8_readDeeds_93 (Or.inl ⟨(vS ||| (2 ^ x_47)), (advK tp sz vT), so1_79, pl1_79, sp1_79, wd1_79, nb1_79, (hq.trans (ds_en (by omega) (show knS kwd 2 nm vT = _ from hW_47) h64 hK_85)), (hTg), ((advK_ok hOv).1), (hs4_79), ((pc6_up vS hvS x_47 hx6 h64).2), rfl, rfl⟩) (by omega) (by omega)
                        · exfalso; omega
                  · refine v_aload_n X dX8_readDeeds_67 rfl 1 rfl ?_
                    refine v_iconst X dX8_readDeeds_68 (v := nI 3) (by decide) ?_
                    refine v_wrV1 X (rn_V X k_X8_flaw ml_X8_118 dX8_readDeeds_69 (c_X8_flaw l E k th tr wh g (some gr7) q (upN (upN z 7 sz) 8 vQ) vB wa vW ev al wl vO vP 3 (hvO)) rfl 0 rfl rfl (by decide) (by decide) (by omega) (by omega) (Nat.le_of_ble_eq_true rfl)) [0] rfl rfl (ws' := [ob k 8 [.int (nI th), .int (nI tr), .int wh, va_rf g, .ref gr7, .ref (q 5), .int (nI (z 6)), .int (nI sz), .int (nI vQ), .int (nI 5), .int (nI vP), .int vB, .int (nI 3), .int (nI vP), .long vW, .ref (q 15), .ref (q 16), .ref (q 17), .ref (q 18), .int (nI (z 19)), .int (nI (z 20)), .ref (q 21), .long (lN ev), .ref (q 23), .ref (q 24), .int (nI (z 25)), .ref (q 26), .int al, .long wl, .int (nI (z 29))], aB E (q 5) 900 tp, ob gr7 7 [.int bl, .int (nI (cy 1)), .int (nI (cy 2)), .int (nI (cy 3)), .int (nI (cy 4)), .int (nI (cy 5)), .int (nI (cy 6)), .int (nI (cy 7)), .int (nI kp), .int (nI nc), .ref (cb 0), .ref (cb 1), .ref (cb 2), .ref (cb 3), .ref (cb 4), .ref (cb 5), .ref (cb 6), .ref (cb 7), .ref (cb 8), .ref (cb 9), .ref (cb 10), .ref (cb 11)], aL E (cb 9) 18 na, aN E (cb 10) 18 ns, aN E (cb 11) 18 nu]) rfl rfl ?_
                    refine v_iload_n X dX8_readDeeds_72 rfl 2 rfl ?_
                    refine v_iconst X dX8_readDeeds_73 (v := nI 1) (by decide) ?_
                    refine v_iload_n X dX8_readDeeds_74 rfl 0 rfl ?_
                    refine v_ishl X dX8_readDeeds_75 ?_
                    refine v_eqi (x' := nI (2 ^ x_47)) (nI_shl1 (by omega)) ?_
                    refine v_ior X dX8_readDeeds_76 ?_
                    refine v_eqi (x' := nI (vS ||| (2 ^ x_47))) (fa_or _ _) ?_
                    refine v_istore_n X dX8_readDeeds_77 rfl (by decide) (lv' := [(1, .int (nI (vS ||| (2 ^ x_47)))), (3, .int (nI x_47)), (0, .ref k), (2, .int (nI 1))]) rfl ?_
                    refine v_aload_n X dX8_readDeeds_78 rfl 2 rfl ?_
                    refine v_roV1 X (rn_V X k_X8_goesOn ml_X8_111 dX8_readDeeds_79 (c_X8_goesOn_o l E k th tr wh g (some gr7) q (upN (upN (upN (upN z 7 sz) 8 vQ) 10 vP) 12 3) vB (nI vP) vW ev al wl ) rfl 0 rfl rfl (by decide) (by decide) (by omega) (by omega) (Nat.le_of_ble_eq_true rfl)) [0] rfl rfl ?_
                    refine v_aload_n X dX8_readDeeds_82 rfl 2 rfl ?_
                    refine v_bipush X dX8_readDeeds_83 (v := nI 44) (by decide) ?_
                    refine v_roI1 X (rn_V X k_X8_eats ml_X8_177 dX8_readDeeds_85 (c_X8_eats_o l E k th tr wh g (some gr7) q (upN (upN (upN (upN z 7 sz) 8 vQ) 10 vP) 12 3) vB (nI vP) vW ev al wl 44 ) rfl 0 rfl rfl (by decide) (by decide) (by omega) (by omega) (Nat.le_of_ble_eq_true rfl)) [0] rfl rfl ?_
                    refine v_istore_n X dX8_readDeeds_88 rfl (by decide) (lv' := [(2, .int (nI 0)), (1, .int (nI (vS ||| (2 ^ x_47)))), (3, .int (nI x_47)), (0, .ref k)]) rfl ?_
                    refine v_goto X dX8_readDeeds_89 (tgt := 41) (by decide) ?_
                    refine v_iload_n X dX8_readDeeds_41 rfl 0 rfl ?_
                    refine v_ifN_eq X dX8_readDeeds_42 (tgt := 92) (by decide) (by decide) (fun h42 => ?_) (fun h42 => ?_)
                    · refine v_iload_n X dX8_readDeeds_92 rfl 1 rfl ?_
                      exact v_iret X Y dX8_readDeeds_93 (Or.inr ⟨(vS ||| (2 ^ x_47)), 3, vP, vP, vQ, vW, vB, (by rw [show vP = vT.2.1 from hTv.1]; exact hq.trans (ds_ag (by omega) (show knS kwd 2 nm vT = _ from hW_47) h64)), rfl, rfl⟩) (by omega) (by omega)
                    · exfalso; omega
              · refine ⟨rfl, ?_⟩
                refine V.cast (st' := [.int (nI 0)]) (ws' := [ob k 8 [.int (nI th), .int (nI tr), .int wh, va_rf g, .ref gr7, .ref (q 5), .int (nI (z 6)), .int (nI sz), .int (nI vQ), .int (nI 5), .int (nI vP), .int vB, .int (nI f_47), .int (nI p_47), .long vW, .ref (q 15), .ref (q 16), .ref (q 17), .ref (q 18), .int (nI (z 19)), .int (nI (z 20)), .ref (q 21), .long (lN ev), .ref (q 23), .ref (q 24), .int (nI (z 25)), .ref (q 26), .int al, .long wl, .int (nI (z 29))], aB E (q 5) 900 tp, ob gr7 7 [.int bl, .int (nI (cy 1)), .int (nI (cy 2)), .int (nI (cy 3)), .int (nI (cy 4)), .int (nI (cy 5)), .int (nI (cy 6)), .int (nI (cy 7)), .int (nI kp), .int (nI nc), .ref (cb 0), .ref (cb 1), .ref (cb 2), .ref (cb 3), .ref (cb 4), .ref (cb 5), .ref (cb 6), .ref (cb 7), .ref (cb 8), .ref (cb 9), .ref (cb 10), .ref (cb 11)], aL E (cb 9) 18 na, aN E (cb 10) 18 ns, aN E (cb 11) 18 nu]) rfl rfl rfl ?_
                have hpl := pc6_le vS hvS
                refine v_istore_n X dX8_readDeeds_50 rfl (by decide) (lv' := [(3, .int (nI 0)), (0, .ref k), (1, .int (nI vS)), (2, .int (nI 1))]) rfl ?_
                refine v_aload_n X dX8_readDeeds_51 rfl 1 rfl ?_
                refine v_get X kcX8 fl_X8_75 dX8_readDeeds_52 0 rfl rfl ?_
                refine v_iconst X dX8_readDeeds_55 (v := nI 5) (by decide) ?_
                refine v_icmpN_eq X dX8_readDeeds_56 (tgt := 72) (by decide) (by decide) (by decide) (fun h56 => ?_) (fun h56 => ?_)
                · refine v_iload_n X dX8_readDeeds_72 rfl 2 rfl ?_
                  refine v_iconst X dX8_readDeeds_73 (v := nI 1) (by decide) ?_
                  refine v_iload_n X dX8_readDeeds_74 rfl 0 rfl ?_
                  refine v_ishl X dX8_readDeeds_75 ?_
                  refine v_eqi (x' := nI (2 ^ 0)) (nI_shl1 (by omega)) ?_
                  refine v_ior X dX8_readDeeds_76 ?_
                  refine v_eqi (x' := nI (vS ||| (2 ^ 0))) (fa_or _ _) ?_
                  refine v_istore_n X dX8_readDeeds_77 rfl (by decide) (lv' := [(1, .int (nI (vS ||| (2 ^ 0)))), (3, .int (nI 0)), (0, .ref k), (2, .int (nI 1))]) rfl ?_
                  refine v_aload_n X dX8_readDeeds_78 rfl 2 rfl ?_
                  refine v_roV1 X (rn_V X k_X8_goesOn ml_X8_111 dX8_readDeeds_79 (c_X8_goesOn_o l E k th tr wh g (some gr7) q (upN (upN (upN (upN z 7 sz) 8 vQ) 10 vP) 12 f_47) vB (nI p_47) vW ev al wl ) rfl 0 rfl rfl (by decide) (by decide) (by omega) (by omega) (Nat.le_of_ble_eq_true rfl)) [0] rfl rfl ?_
                  refine v_aload_n X dX8_readDeeds_82 rfl 2 rfl ?_
                  refine v_bipush X dX8_readDeeds_83 (v := nI 44) (by decide) ?_
                  refine v_roI1 X (rn_V X k_X8_eats ml_X8_177 dX8_readDeeds_85 (c_X8_eats_o l E k th tr wh g (some gr7) q (upN (upN (upN (upN z 7 sz) 8 vQ) 10 vP) 12 f_47) vB (nI p_47) vW ev al wl 44 ) rfl 0 rfl rfl (by decide) (by decide) (by omega) (by omega) (Nat.le_of_ble_eq_true rfl)) [0] rfl rfl ?_
                  refine v_istore_n X dX8_readDeeds_88 rfl (by decide) (lv' := [(2, .int (nI 0)), (1, .int (nI (vS ||| (2 ^ 0)))), (3, .int (nI 0)), (0, .ref k)]) rfl ?_
                  refine v_goto X dX8_readDeeds_89 (tgt := 41) (by decide) ?_
                  refine v_iload_n X dX8_readDeeds_41 rfl 0 rfl ?_
                  refine v_ifN_eq X dX8_readDeeds_42 (tgt := 92) (by decide) (by decide) (fun h42 => ?_) (fun h42 => ?_)
                  · refine v_iload_n X dX8_readDeeds_92 rfl 1 rfl ?_
                    exact v_iret X Y dX8_readDeeds_93 (Or.inr ⟨(vS ||| (2 ^ 0)), f_47, p_47, vP, vQ, vW, vB, (hq.trans (ds_no (by omega) (show knS kwd 2 nm vT = _ from hW_47))), rfl, rfl⟩) (by omega) (by omega)
                  · exfalso; omega
                · exfalso; omega
        refine V.lvs [2, 1, 0] rfl ?_
        exact L41 _ 0 so pl sp nb wd (⟨by decide, hso, 7, tk, by decide, if_neg (t8_nz hT8 h7 (fun z => h23 z.1)), hT8, htO⟩) (Nat.lt_succ_self _)
      · refine v_aload_n X dX8_readDeeds_26 rfl 1 rfl ?_
        refine v_get X kcX8 fl_X8_98 dX8_readDeeds_27 0 rfl rfl ?_
        refine v_bipush X dX8_readDeeds_30 (v := nI 59) (by decide) ?_
        refine v_icmp_eq X dX8_readDeeds_32 (tgt := 39) (by decide) (fun h32 => ?_) (fun h32 => ?_)
        · refine v_iconst X dX8_readDeeds_39 (v := nI 0) (by decide) ?_
          refine v_istore_n X dX8_readDeeds_40 rfl (by decide) (lv' := [(2, .int (nI 0)), (1, .int (nI 0)), (0, .ref k)]) rfl ?_
          refine v_iload_n X dX8_readDeeds_41 rfl 0 rfl ?_
          refine v_ifN_eq X dX8_readDeeds_42 (tgt := 92) (by decide) (by decide) (fun h42 => ?_) (fun h42 => ?_)
          · refine v_iload_n X dX8_readDeeds_92 rfl 1 rfl ?_
            exact v_iret X Y dX8_readDeeds_93 (Or.inl ⟨0, tk, so, pl, sp, wd, nb, (if_pos (Or.inr ((t8_sg hT8 (Or.inl ⟨rfl, rfl⟩)).mp ⟨h23, h32⟩))), (hT8), (htO), (hso), (by decide), rfl, rfl⟩) (by omega) (by omega)
          · exfalso; omega
        · refine v_iconst X dX8_readDeeds_35 (v := nI 1) (by decide) ?_
          refine v_goto X dX8_readDeeds_36 (tgt := 40) (by decide) ?_
          refine v_istore_n X dX8_readDeeds_40 rfl (by decide) (lv' := [(2, .int (nI 1)), (1, .int (nI 0)), (0, .ref k)]) rfl ?_
          have L41 : ∀ (j41 : Nat) (vS : Nat) (vO : Nat) (vP : Nat) (vQ : Nat) (vB : Int32) (vW : Int64), (vS < 64 ∧ vO ≤ 4 ∧ ∃ vN vT, vN + pc6 vS = 7 ∧ setF tp sz kwd nm tk = dsF tp sz kwd nm vN vS vT ∧ T8 vT vO vP vQ vW vB ∧ tkO sz vT) → 7 - pc6 vS < j41 → V E Z 41 [(0, .ref k), (1, .int (nI vS)), (2, .int (nI 1))] [] [ob k 8 [.int (nI th), .int (nI tr), .int wh, va_rf g, .ref gr7, .ref (q 5), .int (nI (z 6)), .int (nI sz), .int (nI vQ), .int (nI vO), .int (nI vP), .int vB, .int (nI (z 12)), .int wa, .long vW, .ref (q 15), .ref (q 16), .ref (q 17), .ref (q 18), .int (nI (z 19)), .int (nI (z 20)), .ref (q 21), .long (lN ev), .ref (q 23), .ref (q 24), .int (nI (z 25)), .ref (q 26), .int al, .long wl, .int (nI (z 29))], aB E (q 5) 900 tp, ob gr7 7 [.int bl, .int (nI (cy 1)), .int (nI (cy 2)), .int (nI (cy 3)), .int (nI (cy 4)), .int (nI (cy 5)), .int (nI (cy 6)), .int (nI (cy 7)), .int (nI kp), .int (nI nc), .ref (cb 0), .ref (cb 1), .ref (cb 2), .ref (cb 3), .ref (cb 4), .ref (cb 5), .ref (cb 6), .ref (cb 7), .ref (cb 8), .ref (cb 9), .ref (cb 10), .ref (cb 11)], aL E (cb 9) 18 na, aN E (cb 10) 18 ns, aN E (cb 11) 18 nu] 0 0 := by
            intro j41
            induction j41 with
            | zero => intro vS vO vP vQ vB vW hI hM; exact absurd hM (Nat.not_lt_zero _)
            | succ j41 ih41 =>
              intro vS vO vP vQ vB vW hI41 hM41
              obtain ⟨hvS, hvO, vN, vT, hvN, hq, hTv, hOv⟩ := id hI41
              refine v_iload_n X dX8_readDeeds_41 rfl 2 rfl ?_
              refine v_ifN_eq X dX8_readDeeds_42 (tgt := 92) (by decide) (by decide) (fun h42 => ?_) (fun h42 => ?_)
              · exfalso; omega
              · refine v_aload_n X dX8_readDeeds_45 rfl 0 rfl ?_
                refine v_iconst X dX8_readDeeds_46 (v := nI 1) (by decide) ?_
                refine v_wr X (rn_V X k_X8_knownOne ml_X8_171 dX8_readDeeds_47 (c_X8_knownOneL l E k th tr wh g q z vB wa vW ev al wl sz vQ vO vP tp vT kwd gr7 cy bl kp nc cb na ns nu nm 1 (by first | assumption | omega) (hTv) (hvO) (by first | assumption | omega) (by first | assumption | omega) (by first | assumption | omega) (by decide)) rfl 0 rfl rfl (by decide) (by decide) (by omega) (by omega) (Nat.le_of_ble_eq_true rfl)) [0, 2, 3, 4, 5] rfl rfl (fun r w1 hpo => ?_)
                rcases hpo with ⟨x_47, hW_47, rfl, rfl⟩ | ⟨f_47, p_47, hW_47, rfl, rfl⟩
                · refine ⟨rfl, ?_⟩
                  refine V.cast (st' := [.int (nI x_47)]) (ws' := [ob k 8 [.int (nI th), .int (nI tr), .int wh, va_rf g, .ref gr7, .ref (q 5), .int (nI (z 6)), .int (nI sz), .int (nI vQ), .int (nI vO), .int (nI vP), .int vB, .int (nI (z 12)), .int wa, .long vW, .ref (q 15), .ref (q 16), .ref (q 17), .ref (q 18), .int (nI (z 19)), .int (nI (z 20)), .ref (q 21), .long (lN ev), .ref (q 23), .ref (q 24), .int (nI (z 25)), .ref (q 26), .int al, .long wl, .int (nI (z 29))], aB E (q 5) 900 tp, ob gr7 7 [.int bl, .int (nI (cy 1)), .int (nI (cy 2)), .int (nI (cy 3)), .int (nI (cy 4)), .int (nI (cy 5)), .int (nI (cy 6)), .int (nI (cy 7)), .int (nI kp), .int (nI nc), .ref (cb 0), .ref (cb 1), .ref (cb 2), .ref (cb 3), .ref (cb 4), .ref (cb 5), .ref (cb 6), .ref (cb 7), .ref (cb 8), .ref (cb 9), .ref (cb 10), .ref (cb 11)], aL E (cb 9) 18 na, aN E (cb 10) 18 ns, aN E (cb 11) 18 nu]) rfl rfl rfl ?_
                  have hx6 : x_47 < 6 := kn_2l hd6 (show knS kwd 2 nm vT = _ from hW_47)
                  have hspe : vQ = vT.2.2.1 := t8_sp hTv (kn_so hTv hW_47)
                  have hpl := pc6_le vS hvS
                  refine v_istore_n X dX8_readDeeds_50 rfl (by decide) (lv' := [(3, .int (nI x_47)), (0, .ref k), (1, .int (nI vS)), (2, .int (nI 1))]) rfl ?_
                  refine v_aload_n X dX8_readDeeds_51 rfl 1 rfl ?_
                  refine v_get X kcX8 fl_X8_75 dX8_readDeeds_52 0 rfl rfl ?_
                  refine v_iconst X dX8_readDeeds_55 (v := nI 5) (by decide) ?_
                  refine v_icmpN_eq X dX8_readDeeds_56 (tgt := 72) (by decide) (by omega) (by decide) (fun h56 => ?_) (fun h56 => ?_)
                  · exfalso; omega
                  · refine v_iload_n X dX8_readDeeds_59 rfl 2 rfl ?_
                    refine v_iload_n X dX8_readDeeds_60 rfl 0 rfl ?_
                    refine v_roI1 X (rn_S X k_X8_bit ml_X8_274 dX8_readDeeds_61 (c_X8_bit l E vS x_47 (by omega) (by omega)) rfl (by decide) (by decide) (by omega) (by omega) (Nat.le_of_ble_eq_true rfl)) [] rfl rfl ?_
                    refine v_ifB_eq X dX8_readDeeds_64 (tgt := 72) (by decide) (fun h64 => ?_) (fun h64 => ?_)
                    · refine v_iload_n X dX8_readDeeds_72 rfl 2 rfl ?_
                      refine v_iconst X dX8_readDeeds_73 (v := nI 1) (by decide) ?_
                      refine v_iload_n X dX8_readDeeds_74 rfl 0 rfl ?_
                      refine v_ishl X dX8_readDeeds_75 ?_
                      refine v_eqi (x' := nI (2 ^ x_47)) (nI_shl1 (by omega)) ?_
                      refine v_ior X dX8_readDeeds_76 ?_
                      refine v_eqi (x' := nI (vS ||| (2 ^ x_47))) (fa_or _ _) ?_
                      refine v_istore_n X dX8_readDeeds_77 rfl (by decide) (lv' := [(1, .int (nI (vS ||| (2 ^ x_47)))), (3, .int (nI x_47)), (0, .ref k), (2, .int (nI 1))]) rfl ?_
                      refine v_aload_n X dX8_readDeeds_78 rfl 2 rfl ?_
                      refine v_wr X (rn_V X k_X8_goesOn ml_X8_111 dX8_readDeeds_79 (c_X8_goesOnL l E k th tr wh g (some gr7) q z vB wa vW ev al wl sz vQ vO vP tp vT.2.2.2 (hvO) (by first | assumption | omega) (by rw [hspe]; exact hOv.2.2.1) (by first | assumption | omega)) rfl 0 rfl rfl (by decide) (by decide) (by omega) (by omega) (Nat.le_of_ble_eq_true rfl)) [0, 1] rfl rfl (fun r w1 hpo => ?_)
                      rcases hpo with ⟨so1_79, pl1_79, sp1_79, wd1_79, nb1_79, hT8_79, hs1_79, hs4_79, rfl, rfl⟩
                      · refine ⟨rfl, ?_⟩
                        refine V.cast (st' := []) (ws' := [ob k 8 [.int (nI th), .int (nI tr), .int wh, va_rf g, .ref gr7, .ref (q 5), .int (nI (z 6)), .int (nI sz), .int (nI sp1_79), .int (nI so1_79), .int (nI pl1_79), .int nb1_79, .int (nI (z 12)), .int wa, .long wd1_79, .ref (q 15), .ref (q 16), .ref (q 17), .ref (q 18), .int (nI (z 19)), .int (nI (z 20)), .ref (q 21), .long (lN ev), .ref (q 23), .ref (q 24), .int (nI (z 25)), .ref (q 26), .int al, .long wl, .int (nI (z 29))], aB E (q 5) 900 tp, ob gr7 7 [.int bl, .int (nI (cy 1)), .int (nI (cy 2)), .int (nI (cy 3)), .int (nI (cy 4)), .int (nI (cy 5)), .int (nI (cy 6)), .int (nI (cy 7)), .int (nI kp), .int (nI nc), .ref (cb 0), .ref (cb 1), .ref (cb 2), .ref (cb 3), .ref (cb 4), .ref (cb 5), .ref (cb 6), .ref (cb 7), .ref (cb 8), .ref (cb 9), .ref (cb 10), .ref (cb 11)], aL E (cb 9) 18 na, aN E (cb 10) 18 ns, aN E (cb 11) 18 nu]) rfl rfl rfl ?_
                        have hTg : T8 (advK tp sz vT) so1_79 pl1_79 sp1_79 wd1_79 nb1_79 := by have h9 := hT8_79; rw [hspe] at h9; exact h9
                        refine v_aload_n X dX8_readDeeds_82 rfl 2 rfl ?_
                        refine v_bipush X dX8_readDeeds_83 (v := nI 44) (by decide) ?_
                        refine v_wr X (rn_V X k_X8_eats ml_X8_177 dX8_readDeeds_85 (c_X8_eatsL l E k th tr wh g (some gr7) q z nb1_79 wa wd1_79 ev al wl sz sp1_79 so1_79 pl1_79 tp (advK tp sz vT) 44 4 (hTg) ((advK_ok hOv).1) (hs4_79) (by first | assumption | omega) (by first | assumption | omega) (Or.inr ⟨rfl, rfl⟩)) rfl 0 rfl rfl (by decide) (by decide) (by omega) (by omega) (Nat.le_of_ble_eq_true rfl)) [0, 1] rfl rfl (fun r w1 hpo => ?_)
                        rcases hpo with ⟨tk1_85, so1_85, pl1_85, sp1_85, wd1_85, nb1_85, hK_85, hA_85, hT_85, hU_85, hS_85, rfl, rfl⟩ | ⟨hK_85, rfl, rfl⟩
                        · refine ⟨rfl, ?_⟩
                          refine V.cast (st' := [.int (nI 1)]) (ws' := [ob k 8 [.int (nI th), .int (nI tr), .int wh, va_rf g, .ref gr7, .ref (q 5), .int (nI (z 6)), .int (nI sz), .int (nI sp1_85), .int (nI so1_85), .int (nI pl1_85), .int nb1_85, .int (nI (z 12)), .int wa, .long wd1_85, .ref (q 15), .ref (q 16), .ref (q 17), .ref (q 18), .int (nI (z 19)), .int (nI (z 20)), .ref (q 21), .long (lN ev), .ref (q 23), .ref (q 24), .int (nI (z 25)), .ref (q 26), .int al, .long wl, .int (nI (z 29))], aB E (q 5) 900 tp, ob gr7 7 [.int bl, .int (nI (cy 1)), .int (nI (cy 2)), .int (nI (cy 3)), .int (nI (cy 4)), .int (nI (cy 5)), .int (nI (cy 6)), .int (nI (cy 7)), .int (nI kp), .int (nI nc), .ref (cb 0), .ref (cb 1), .ref (cb 2), .ref (cb 3), .ref (cb 4), .ref (cb 5), .ref (cb 6), .ref (cb 7), .ref (cb 8), .ref (cb 9), .ref (cb 10), .ref (cb 11)], aL E (cb 9) 18 na, aN E (cb 10) 18 ns, aN E (cb 11) 18 nu]) rfl rfl rfl ?_
                          refine v_istore_n X dX8_readDeeds_88 rfl (by decide) (lv' := [(2, .int (nI 1)), (1, .int (nI (vS ||| (2 ^ x_47)))), (3, .int (nI x_47)), (0, .ref k)]) rfl ?_
                          refine v_goto X dX8_readDeeds_89 (tgt := 41) (by decide) ?_
                          refine V.lvs [3, 1, 0] rfl ?_
                          exact ih41 (vS ||| (2 ^ x_47)) so1_85 pl1_85 sp1_85 nb1_85 wd1_85 (⟨(pc6_up vS hvS x_47 hx6 h64).2, hS_85, vN - 1, _, by have := (pc6_up vS hvS x_47 hx6 h64).1; omega, hq.trans (ds_go (by omega) (show knS kwd 2 nm vT = _ from hW_47) h64 hK_85), by rw [hA_85]; exact hT_85, by rw [hA_85]; exact hU_85⟩) (by have := (pc6_up vS hvS x_47 hx6 h64).1; omega)
                        · refine ⟨rfl, ?_⟩
                          refine V.cast (st' := [.int (nI 0)]) (ws' := [ob k 8 [.int (nI th), .int (nI tr), .int wh, va_rf g, .ref gr7, .ref (q 5), .int (nI (z 6)), .int (nI sz), .int (nI sp1_79), .int (nI so1_79), .int (nI pl1_79), .int nb1_79, .int (nI (z 12)), .int wa, .long wd1_79, .ref (q 15), .ref (q 16), .ref (q 17), .ref (q 18), .int (nI (z 19)), .int (nI (z 20)), .ref (q 21), .long (lN ev), .ref (q 23), .ref (q 24), .int (nI (z 25)), .ref (q 26), .int al, .long wl, .int (nI (z 29))], aB E (q 5) 900 tp, ob gr7 7 [.int bl, .int (nI (cy 1)), .int (nI (cy 2)), .int (nI (cy 3)), .int (nI (cy 4)), .int (nI (cy 5)), .int (nI (cy 6)), .int (nI (cy 7)), .int (nI kp), .int (nI nc), .ref (cb 0), .ref (cb 1), .ref (cb 2), .ref (cb 3), .ref (cb 4), .ref (cb 5), .ref (cb 6), .ref (cb 7), .ref (cb 8), .ref (cb 9), .ref (cb 10), .ref (cb 11)], aL E (cb 9) 18 na, aN E (cb 10) 18 ns, aN E (cb 11) 18 nu]) rfl rfl rfl ?_
                          refine v_istore_n X dX8_readDeeds_88 rfl (by decide) (lv' := [(2, .int (nI 0)), (1, .int (nI (vS ||| (2 ^ x_47)))), (3, .int (nI x_47)), (0, .ref k)]) rfl ?_
                          refine v_goto X dX8_readDeeds_89 (tgt := 41) (by decide) ?_
                          refine v_iload_n X dX8_readDeeds_41 rfl 0 rfl ?_
                          refine v_ifN_eq X dX8_readDeeds_42 (tgt := 92) (by decide) (by decide) (fun h42 => ?_) (fun h42 => ?_)
                          · refine v_iload_n X dX8_readDeeds_92 rfl 1 rfl ?_
                            exact v_iret X Y dX8_readDeeds_93 (Or.inl ⟨(vS ||| (2 ^ x_47)), (advK tp sz vT), so1_79, pl1_79, sp1_79, wd1_79, nb1_79, (hq.trans (ds_en (by omega) (show knS kwd 2 nm vT = _ from hW_47) h64 hK_85)), (hTg), ((advK_ok hOv).1), (hs4_79), ((pc6_up vS hvS x_47 hx6 h64).2), rfl, rfl⟩) (by omega) (by omega)
                          · exfalso; omega
                    · refine v_aload_n X dX8_readDeeds_67 rfl 1 rfl ?_
                      refine v_iconst X dX8_readDeeds_68 (v := nI 3) (by decide) ?_
                      refine v_wrV1 X (rn_V X k_X8_flaw ml_X8_118 dX8_readDeeds_69 (c_X8_flaw l E k th tr wh g (some gr7) q (upN (upN z 7 sz) 8 vQ) vB wa vW ev al wl vO vP 3 (hvO)) rfl 0 rfl rfl (by decide) (by decide) (by omega) (by omega) (Nat.le_of_ble_eq_true rfl)) [0] rfl rfl (ws' := [ob k 8 [.int (nI th), .int (nI tr), .int wh, va_rf g, .ref gr7, .ref (q 5), .int (nI (z 6)), .int (nI sz), .int (nI vQ), .int (nI 5), .int (nI vP), .int vB, .int (nI 3), .int (nI vP), .long vW, .ref (q 15), .ref (q 16), .ref (q 17), .ref (q 18), .int (nI (z 19)), .int (nI (z 20)), .ref (q 21), .long (lN ev), .ref (q 23), .ref (q 24), .int (nI (z 25)), .ref (q 26), .int al, .long wl, .int (nI (z 29))], aB E (q 5) 900 tp, ob gr7 7 [.int bl, .int (nI (cy 1)), .int (nI (cy 2)), .int (nI (cy 3)), .int (nI (cy 4)), .int (nI (cy 5)), .int (nI (cy 6)), .int (nI (cy 7)), .int (nI kp), .int (nI nc), .ref (cb 0), .ref (cb 1), .ref (cb 2), .ref (cb 3), .ref (cb 4), .ref (cb 5), .ref (cb 6), .ref (cb 7), .ref (cb 8), .ref (cb 9), .ref (cb 10), .ref (cb 11)], aL E (cb 9) 18 na, aN E (cb 10) 18 ns, aN E (cb 11) 18 nu]) rfl rfl ?_
                      refine v_iload_n X dX8_readDeeds_72 rfl 2 rfl ?_
                      refine v_iconst X dX8_readDeeds_73 (v := nI 1) (by decide) ?_
                      refine v_iload_n X dX8_readDeeds_74 rfl 0 rfl ?_
                      refine v_ishl X dX8_readDeeds_75 ?_
                      refine v_eqi (x' := nI (2 ^ x_47)) (nI_shl1 (by omega)) ?_
                      refine v_ior X dX8_readDeeds_76 ?_
                      refine v_eqi (x' := nI (vS ||| (2 ^ x_47))) (fa_or _ _) ?_
                      refine v_istore_n X dX8_readDeeds_77 rfl (by decide) (lv' := [(1, .int (nI (vS ||| (2 ^ x_47)))), (3, .int (nI x_47)), (0, .ref k), (2, .int (nI 1))]) rfl ?_
                      refine v_aload_n X dX8_readDeeds_78 rfl 2 rfl ?_
                      refine v_roV1 X (rn_V X k_X8_goesOn ml_X8_111 dX8_readDeeds_79 (c_X8_goesOn_o l E k th tr wh g (some gr7) q (upN (upN (upN (upN z 7 sz) 8 vQ) 10 vP) 12 3) vB (nI vP) vW ev al wl ) rfl 0 rfl rfl (by decide) (by decide) (by omega) (by omega) (Nat.le_of_ble_eq_true rfl)) [0] rfl rfl ?_
                      refine v_aload_n X dX8_readDeeds_82 rfl 2 rfl ?_
                      refine v_bipush X dX8_readDeeds_83 (v := nI 44) (by decide) ?_
                      refine v_roI1 X (rn_V X k_X8_eats ml_X8_177 dX8_readDeeds_85 (c_X8_eats_o l E k th tr wh g (some gr7) q (upN (upN (upN (upN z 7 sz) 8 vQ) 10 vP) 12 3) vB (nI vP) vW ev al wl 44 ) rfl 0 rfl rfl (by decide) (by decide) (by omega) (by omega) (Nat.le_of_ble_eq_true rfl)) [0] rfl rfl ?_
                      refine v_istore_n X dX8_readDeeds_88 rfl (by decide) (lv' := [(2, .int (nI 0)), (1, .int (nI (vS ||| (2 ^ x_47)))), (3, .int (nI x_47)), (0, .ref k)]) rfl ?_
                      refine v_goto X dX8_readDeeds_89 (tgt := 41) (by decide) ?_
                      refine v_iload_n X dX8_readDeeds_41 rfl 0 rfl ?_
                      refine v_ifN_eq X dX8_readDeeds_42 (tgt := 92) (by decide) (by decide) (fun h42 => ?_) (fun h42 => ?_)
                      · refine v_iload_n X dX8_readDeeds_92 rfl 1 rfl ?_
                        exact v_iret X Y dX8_readDeeds_93 (Or.inr ⟨(vS ||| (2 ^ x_47)), 3, vP, vP, vQ, vW, vB, (by rw [show vP = vT.2.1 from hTv.1]; exact hq.trans (ds_ag (by omega) (show knS kwd 2 nm vT = _ from hW_47) h64)), rfl, rfl⟩) (by omega) (by omega)
                      · exfalso; omega
                · refine ⟨rfl, ?_⟩
                  refine V.cast (st' := [.int (nI 0)]) (ws' := [ob k 8 [.int (nI th), .int (nI tr), .int wh, va_rf g, .ref gr7, .ref (q 5), .int (nI (z 6)), .int (nI sz), .int (nI vQ), .int (nI 5), .int (nI vP), .int vB, .int (nI f_47), .int (nI p_47), .long vW, .ref (q 15), .ref (q 16), .ref (q 17), .ref (q 18), .int (nI (z 19)), .int (nI (z 20)), .ref (q 21), .long (lN ev), .ref (q 23), .ref (q 24), .int (nI (z 25)), .ref (q 26), .int al, .long wl, .int (nI (z 29))], aB E (q 5) 900 tp, ob gr7 7 [.int bl, .int (nI (cy 1)), .int (nI (cy 2)), .int (nI (cy 3)), .int (nI (cy 4)), .int (nI (cy 5)), .int (nI (cy 6)), .int (nI (cy 7)), .int (nI kp), .int (nI nc), .ref (cb 0), .ref (cb 1), .ref (cb 2), .ref (cb 3), .ref (cb 4), .ref (cb 5), .ref (cb 6), .ref (cb 7), .ref (cb 8), .ref (cb 9), .ref (cb 10), .ref (cb 11)], aL E (cb 9) 18 na, aN E (cb 10) 18 ns, aN E (cb 11) 18 nu]) rfl rfl rfl ?_
                  have hpl := pc6_le vS hvS
                  refine v_istore_n X dX8_readDeeds_50 rfl (by decide) (lv' := [(3, .int (nI 0)), (0, .ref k), (1, .int (nI vS)), (2, .int (nI 1))]) rfl ?_
                  refine v_aload_n X dX8_readDeeds_51 rfl 1 rfl ?_
                  refine v_get X kcX8 fl_X8_75 dX8_readDeeds_52 0 rfl rfl ?_
                  refine v_iconst X dX8_readDeeds_55 (v := nI 5) (by decide) ?_
                  refine v_icmpN_eq X dX8_readDeeds_56 (tgt := 72) (by decide) (by decide) (by decide) (fun h56 => ?_) (fun h56 => ?_)
                  · refine v_iload_n X dX8_readDeeds_72 rfl 2 rfl ?_
                    refine v_iconst X dX8_readDeeds_73 (v := nI 1) (by decide) ?_
                    refine v_iload_n X dX8_readDeeds_74 rfl 0 rfl ?_
                    refine v_ishl X dX8_readDeeds_75 ?_
                    refine v_eqi (x' := nI (2 ^ 0)) (nI_shl1 (by omega)) ?_
                    refine v_ior X dX8_readDeeds_76 ?_
                    refine v_eqi (x' := nI (vS ||| (2 ^ 0))) (fa_or _ _) ?_
                    refine v_istore_n X dX8_readDeeds_77 rfl (by decide) (lv' := [(1, .int (nI (vS ||| (2 ^ 0)))), (3, .int (nI 0)), (0, .ref k), (2, .int (nI 1))]) rfl ?_
                    refine v_aload_n X dX8_readDeeds_78 rfl 2 rfl ?_
                    refine v_roV1 X (rn_V X k_X8_goesOn ml_X8_111 dX8_readDeeds_79 (c_X8_goesOn_o l E k th tr wh g (some gr7) q (upN (upN (upN (upN z 7 sz) 8 vQ) 10 vP) 12 f_47) vB (nI p_47) vW ev al wl ) rfl 0 rfl rfl (by decide) (by decide) (by omega) (by omega) (Nat.le_of_ble_eq_true rfl)) [0] rfl rfl ?_
                    refine v_aload_n X dX8_readDeeds_82 rfl 2 rfl ?_
                    refine v_bipush X dX8_readDeeds_83 (v := nI 44) (by decide) ?_
                    refine v_roI1 X (rn_V X k_X8_eats ml_X8_177 dX8_readDeeds_85 (c_X8_eats_o l E k th tr wh g (some gr7) q (upN (upN (upN (upN z 7 sz) 8 vQ) 10 vP) 12 f_47) vB (nI p_47) vW ev al wl 44 ) rfl 0 rfl rfl (by decide) (by decide) (by omega) (by omega) (Nat.le_of_ble_eq_true rfl)) [0] rfl rfl ?_
                    refine v_istore_n X dX8_readDeeds_88 rfl (by decide) (lv' := [(2, .int (nI 0)), (1, .int (nI (vS ||| (2 ^ 0)))), (3, .int (nI 0)), (0, .ref k)]) rfl ?_
                    refine v_goto X dX8_readDeeds_89 (tgt := 41) (by decide) ?_
                    refine v_iload_n X dX8_readDeeds_41 rfl 0 rfl ?_
                    refine v_ifN_eq X dX8_readDeeds_42 (tgt := 92) (by decide) (by decide) (fun h42 => ?_) (fun h42 => ?_)
                    · refine v_iload_n X dX8_readDeeds_92 rfl 1 rfl ?_
                      exact v_iret X Y dX8_readDeeds_93 (Or.inr ⟨(vS ||| (2 ^ 0)), f_47, p_47, vP, vQ, vW, vB, (hq.trans (ds_no (by omega) (show knS kwd 2 nm vT = _ from hW_47))), rfl, rfl⟩) (by omega) (by omega)
                    · exfalso; omega
                  · exfalso; omega
          refine V.lvs [2, 1, 0] rfl ?_
          exact L41 _ 0 so pl sp nb wd (⟨by decide, hso, 7, tk, by decide, if_neg (t8_nz hT8 h7 (fun z => h32 z.2)), hT8, htO⟩) (Nat.lt_succ_self _)
