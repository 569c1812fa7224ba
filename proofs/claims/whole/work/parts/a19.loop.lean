theorem i63 (x : Int32) : ∃ v, v < 64 ∧ x &&& nI 63 = nI v := by
  obtain ⟨n, -, rfl⟩ := wb_of32 x
  exact ⟨n &&& 63, Nat.and_lt_two_pow (n := 6) n (by decide), fa_and n 63⟩
theorem lp_c {L i : Nat} (hL : L ≤ 3072) (hi : i ≤ 4000) (h : ¬ nI L - nI 6 < nI i) : i + 6 ≤ L := by
  rcases Nat.lt_or_ge L 6 with z | z
  · exfalso
    have h0 : nI L - nI 6 < 0 := by
      rcases (show L = 0 ∨ L = 1 ∨ L = 2 ∨ L = 3 ∨ L = 4 ∨ L = 5 by omega) with rfl | rfl | rfl | rfl | rfl | rfl <;> decide
    have h1 : (0 : Int32) ≤ nI i := nI_pos' (by omega)
    exact h (Int32.lt_of_lt_of_le h0 h1)
  · rw [pk_sub z] at h
    have := (not_congr (nI_ltI (a := L - 6) (b := i) (by omega) (by omega))).mp h
    omega
set_option maxRecDepth 100000 in
set_option maxHeartbeats 4000000 in
theorem law_loop (l : Launch) (E : Et) (Z : Zt) (b L oa x k : Nat) (xs : Nat → Int32) (X : Cx E l 40 601024 7293034 Z cL_law 7 yL_law (some .boolean)) (S : SC Z b L xs) (hL : L ≤ 3072)
    (hend : ∀ (lv : List (Nat × Value)) (ws : va_W) (kc ns_ : Nat), kc ≤ 601024 → ns_ ≤ 7293034 → V E Z 1912 lv [] ws kc ns_)
    (hled : ∀ (i kc ns_ : Nat) (of_ : Nat → Int64) (w6 w8 : va_W), i + 6 ≤ L → kc + 20 ≤ 601024 → ns_ + 200 ≤ 7293034 → INV E x k w6 w8 → (∀ (v6 v8 : va_W) (o9 : Nat → Int64), INV E x k v6 v8 → V E Z 1906 [(4, .int (nI i)), (3, .ref oa), (2, .ref k), (1, .ref x), (0, .ref b)] [] (v6 ++ (v8 ++ [aL E oa 1 o9])) (kc + 20) (ns_ + 200)) → V E Z 1812 [(4, .int (nI i)), (3, .ref oa), (2, .ref k), (1, .ref x), (0, .ref b)] [] (w6 ++ (w8 ++ [aL E oa 1 of_])) kc ns_) :
    ∀ (m i kc ns_ : Nat) (of_ : Nat → Int64) (w6 w8 : va_W), L + 6 - i < m → i ≤ L + 6 → kc + 20 * (L + 6 - i) ≤ 600000 → ns_ + 200 * (L + 6 - i) ≤ 7000000 → INV E x k w6 w8 → V E Z 23 [(4, .int (nI i)), (3, .ref oa), (2, .ref k), (1, .ref x), (0, .ref b)] [] (w6 ++ (w8 ++ [aL E oa 1 of_])) kc ns_ := by
  intro m
  induction m with
  | zero => intro i kc ns_ of_ w6 w8 h; exact absurd h (Nat.not_lt_zero _)
  | succ m ihm =>
    intro i kc ns_ of_ w6 w8 hm hi hk hn hv
    refine v_iload X dL_law_23 0 rfl ?_
    refine v_aload_n X dL_law_25 rfl 4 rfl ?_
    refine v_slen X S dL_law_26 ?_
    refine v_bipush X dL_law_27 (v := nI 6) (by decide) ?_
    refine v_isub X dL_law_29 ?_
    refine v_icmp_gt X dL_law_30 (tgt := 1912) (by decide) (fun _ => ?_) (fun h => ?_)
    · exact hend _ _ _ _ (by omega) (by omega)
    · have hi6 : i + 6 ≤ L := lp_c hL (by omega) h
      have ih : ∀ (v6 v8 : va_W) (o9 : Nat → Int64), INV E x k v6 v8 → V E Z 1906 [(4, .int (nI i)), (3, .ref oa), (2, .ref k), (1, .ref x), (0, .ref b)] [] (v6 ++ (v8 ++ [aL E oa 1 o9])) (kc + 20) (ns_ + 200) := by
        intro v6 v8 o9 hv9
        refine v_iinc X dL_law_1906 0 rfl (v := nI (i + 6)) (show nI i + Int32.ofInt 6 = nI (i + 6) from nI_add i 6) (by decide) (lv' := [(4, .int (nI (i + 6))), (3, .ref oa), (2, .ref k), (1, .ref x), (0, .ref b)]) rfl ?_
        refine v_goto X dL_law_1909 (tgt := 23) (by decide) ?_
        exact ihm (i + 6) (kc + 20) (ns_ + 200) o9 v6 v8 (by omega) (by omega) (by omega) (by omega) hv9
      have hk1 : kc + 20 ≤ 601024 := by omega
      have hn1 : ns_ + 200 ≤ 7293034 := by omega
      refine v_aload_n X dL_law_33 rfl 4 rfl ?_
      refine v_iload X dL_law_34 0 rfl ?_
      refine v_sld X S dL_law_36 (j := i) (by omega) (by omega) ?_
      refine v_bipush X dL_law_37 (v := nI 63) (by decide) ?_
      refine v_iand X dL_law_39 ?_
      obtain ⟨v, hv64, hve⟩ := i63 (xs i)
      refine v_eqi (x' := nI v) hve ?_
      rcases Nat.lt_or_ge v 55 with hz | hz
      · rcases (show v = 0 ∨ v = 1 ∨ v = 2 ∨ v = 3 ∨ v = 4 ∨ v = 5 ∨ v = 6 ∨ v = 7 ∨ v = 8 ∨ v = 9 ∨ v = 10 ∨ v = 11 ∨ v = 12 ∨ v = 13 ∨ v = 14 ∨ v = 15 ∨ v = 16 ∨ v = 17 ∨ v = 18 ∨ v = 19 ∨ v = 20 ∨ v = 21 ∨ v = 22 ∨ v = 23 ∨ v = 24 ∨ v = 25 ∨ v = 26 ∨ v = 27 ∨ v = 28 ∨ v = 29 ∨ v = 30 ∨ v = 31 ∨ v = 32 ∨ v = 33 ∨ v = 34 ∨ v = 35 ∨ v = 36 ∨ v = 37 ∨ v = 38 ∨ v = 39 ∨ v = 40 ∨ v = 41 ∨ v = 42 ∨ v = 43 ∨ v = 44 ∨ v = 45 ∨ v = 46 ∨ v = 47 ∨ v = 48 ∨ v = 49 ∨ v = 50 ∨ v = 51 ∨ v = 52 ∨ v = 53 ∨ v = 54 by omega) with rfl | rfl | rfl | rfl | rfl | rfl | rfl | rfl | rfl | rfl | rfl | rfl | rfl | rfl | rfl | rfl | rfl | rfl | rfl | rfl | rfl | rfl | rfl | rfl | rfl | rfl | rfl | rfl | rfl | rfl | rfl | rfl | rfl | rfl | rfl | rfl | rfl | rfl | rfl | rfl | rfl | rfl | rfl | rfl | rfl | rfl | rfl | rfl | rfl | rfl | rfl | rfl | rfl | rfl | rfl
        · refine v_swIn X dL_law_40 (by decide) (by decide) (off := 236) (by decide) (tgt := 276) (by decide) ?_
          exact cs_feed l E Z b L oa x k i kc ns_ xs of_ w6 w8 X S hL hi6 hk1 hn1 hv ih
        · refine v_swIn X dL_law_40 (by decide) (by decide) (off := 309) (by decide) (tgt := 349) (by decide) ?_
          exact cs_city l E Z b L oa x k i kc ns_ xs of_ w6 w8 X S hL hi6 hk1 hn1 hv ih
        · refine v_swIn X dL_law_40 (by decide) (by decide) (off := 334) (by decide) (tgt := 374) (by decide) ?_
          exact cs_fault l E Z b L oa x k i kc ns_ xs of_ w6 w8 X S hL hi6 hk1 hn1 hv ih
        · refine v_swIn X dL_law_40 (by decide) (by decide) (off := 347) (by decide) (tgt := 387) (by decide) ?_
          exact cs_where l E Z b L oa x k i kc ns_ xs of_ w6 w8 X S hL hi6 hk1 hn1 hv ih
        · refine v_swIn X dL_law_40 (by decide) (by decide) (off := 360) (by decide) (tgt := 400) (by decide) ?_
          exact cs_clause l E Z b L oa x k i kc ns_ xs of_ w6 w8 X S hL hi6 hk1 hn1 hv ih
        · refine v_swIn X dL_law_40 (by decide) (by decide) (off := 397) (by decide) (tgt := 437) (by decide) ?_
          exact cs_man l E Z b L oa x k i kc ns_ xs of_ w6 w8 X S hL hi6 hk1 hn1 hv ih
        · refine v_swIn X dL_law_40 (by decide) (by decide) (off := 434) (by decide) (tgt := 474) (by decide) ?_
          exact cs_keeps l E Z b L oa x k i kc ns_ xs of_ w6 w8 X S hL hi6 hk1 hn1 hv ih
        · refine v_swIn X dL_law_40 (by decide) (by decide) (off := 471) (by decide) (tgt := 511) (by decide) ?_
          exact cs_may l E Z b L oa x k i kc ns_ xs of_ w6 w8 X S hL hi6 hk1 hn1 hv ih
        · refine v_swIn X dL_law_40 (by decide) (by decide) (off := 508) (by decide) (tgt := 548) (by decide) ?_
          exact cs_ways l E Z b L oa x k i kc ns_ xs of_ w6 w8 X S hL hi6 hk1 hn1 hv ih
        · refine v_swIn X dL_law_40 (by decide) (by decide) (off := 533) (by decide) (tgt := 573) (by decide) ?_
          exact cs_wayAt l E Z b L oa x k i kc ns_ xs of_ w6 w8 X S hL hi6 hk1 hn1 hv ih
        · refine v_swIn X dL_law_40 (by decide) (by decide) (off := 570) (by decide) (tgt := 610) (by decide) ?_
          exact cs_can l E Z b L oa x k i kc ns_ xs of_ w6 w8 X S hL hi6 hk1 hn1 hv ih
        · refine v_swIn X dL_law_40 (by decide) (by decide) (off := 595) (by decide) (tgt := 635) (by decide) ?_
          exact cs_must l E Z b L oa x k i kc ns_ xs of_ w6 w8 X S hL hi6 hk1 hn1 hv ih
        · refine v_swIn X dL_law_40 (by decide) (by decide) (off := 620) (by decide) (tgt := 660) (by decide) ?_
          exact cs_idlest l E Z b L oa x k i kc ns_ xs of_ w6 w8 X S hL hi6 hk1 hn1 hv ih
        · refine v_swIn X dL_law_40 (by decide) (by decide) (off := 645) (by decide) (tgt := 685) (by decide) ?_
          exact cs_stuck l E Z b L oa x k i kc ns_ xs of_ w6 w8 X S hL hi6 hk1 hn1 hv ih
        · refine v_swIn X dL_law_40 (by decide) (by decide) (off := 658) (by decide) (tgt := 698) (by decide) ?_
          exact cs_mostBound l E Z b L oa x k i kc ns_ xs of_ w6 w8 X S hL hi6 hk1 hn1 hv ih
        · refine v_swIn X dL_law_40 (by decide) (by decide) (off := 671) (by decide) (tgt := 711) (by decide) ?_
          exact cs_bar l E Z b L oa x k i kc ns_ xs of_ w6 w8 X S hL hi6 hk1 hn1 hv ih
        · refine v_swIn X dL_law_40 (by decide) (by decide) (off := 696) (by decide) (tgt := 736) (by decide) ?_
          exact cs_free l E Z b L oa x k i kc ns_ xs of_ w6 w8 X S hL hi6 hk1 hn1 hv ih
        · refine v_swIn X dL_law_40 (by decide) (by decide) (off := 721) (by decide) (tgt := 761) (by decide) ?_
          exact cs_cheap l E Z b L oa x k i kc ns_ xs of_ w6 w8 X S hL hi6 hk1 hn1 hv ih
        · refine v_swIn X dL_law_40 (by decide) (by decide) (off := 746) (by decide) (tgt := 786) (by decide) ?_
          exact cs_price l E Z b L oa x k i kc ns_ xs of_ w6 w8 X S hL hi6 hk1 hn1 hv ih
        · refine v_swIn X dL_law_40 (by decide) (by decide) (off := 771) (by decide) (tgt := 811) (by decide) ?_
          exact cs_idle l E Z b L oa x k i kc ns_ xs of_ w6 w8 X S hL hi6 hk1 hn1 hv ih
        · refine v_swIn X dL_law_40 (by decide) (by decide) (off := 796) (by decide) (tgt := 836) (by decide) ?_
          exact cs_heaviest l E Z b L oa x k i kc ns_ xs of_ w6 w8 X S hL hi6 hk1 hn1 hv ih
        · refine v_swIn X dL_law_40 (by decide) (by decide) (off := 821) (by decide) (tgt := 861) (by decide) ?_
          exact cs_feared l E Z b L oa x k i kc ns_ xs of_ w6 w8 X S hL hi6 hk1 hn1 hv ih
        · refine v_swIn X dL_law_40 (by decide) (by decide) (off := 846) (by decide) (tgt := 886) (by decide) ?_
          exact cs_spread l E Z b L oa x k i kc ns_ xs of_ w6 w8 X S hL hi6 hk1 hn1 hv ih
        · refine v_swIn X dL_law_40 (by decide) (by decide) (off := 859) (by decide) (tgt := 899) (by decide) ?_
          exact cs_spreadAt l E Z b L oa x k i kc ns_ xs of_ w6 w8 X S hL hi6 hk1 hn1 hv ih
        · refine v_swIn X dL_law_40 (by decide) (by decide) (off := 884) (by decide) (tgt := 924) (by decide) ?_
          exact cs_together l E Z b L oa x k i kc ns_ xs of_ w6 w8 X S hL hi6 hk1 hn1 hv ih
        · refine v_swIn X dL_law_40 (by decide) (by decide) (off := 897) (by decide) (tgt := 937) (by decide) ?_
          exact cs_ink l E Z b L oa x k i kc ns_ xs of_ w6 w8 X S hL hi6 hk1 hn1 hv ih
        · refine v_swIn X dL_law_40 (by decide) (by decide) (off := 934) (by decide) (tgt := 974) (by decide) ?_
          exact cs_waysIn l E Z b L oa x k i kc ns_ xs of_ w6 w8 X S hL hi6 hk1 hn1 hv ih
        · refine v_swIn X dL_law_40 (by decide) (by decide) (off := 971) (by decide) (tgt := 1011) (by decide) ?_
          exact cs_freeIn l E Z b L oa x k i kc ns_ xs of_ w6 w8 X S hL hi6 hk1 hn1 hv ih
        · refine v_swIn X dL_law_40 (by decide) (by decide) (off := 996) (by decide) (tgt := 1036) (by decide) ?_
          exact cs_clearIn l E Z b L oa x k i kc ns_ xs of_ w6 w8 X S hL hi6 hk1 hn1 hv ih
        · refine v_swIn X dL_law_40 (by decide) (by decide) (off := 1021) (by decide) (tgt := 1061) (by decide) ?_
          exact cs_mayIn l E Z b L oa x k i kc ns_ xs of_ w6 w8 X S hL hi6 hk1 hn1 hv ih
        · refine v_swIn X dL_law_40 (by decide) (by decide) (off := 1058) (by decide) (tgt := 1098) (by decide) ?_
          exact cs_fits l E Z b L oa x k i kc ns_ xs of_ w6 w8 X S hL hi6 hk1 hn1 hv ih
        · refine v_swIn X dL_law_40 (by decide) (by decide) (off := 1071) (by decide) (tgt := 1111) (by decide) ?_
          exact cs_fitAt l E Z b L oa x k i kc ns_ xs of_ w6 w8 X S hL hi6 hk1 hn1 hv ih
        · refine v_swIn X dL_law_40 (by decide) (by decide) (off := 1096) (by decide) (tgt := 1136) (by decide) ?_
          exact cs_odds l E Z b L oa x k i kc ns_ xs of_ w6 w8 X S hL hi6 hk1 hn1 hv ih
        · refine v_swIn X dL_law_40 (by decide) (by decide) (off := 1150) (by decide) (tgt := 1190) (by decide) ?_
          exact cs_likeliest l E Z b L oa x k i kc ns_ xs of_ w6 w8 X S hL hi6 hk1 hn1 hv ih
        · refine v_swIn X dL_law_40 (by decide) (by decide) (off := 1163) (by decide) (tgt := 1203) (by decide) ?_
          exact cs_ask l E Z b L oa x k i kc ns_ xs of_ w6 w8 X S hL hi6 hk1 hn1 hv ih
        · refine v_swIn X dL_law_40 (by decide) (by decide) (off := 1176) (by decide) (tgt := 1216) (by decide) ?_
          exact cs_askLeaves l E Z b L oa x k i kc ns_ xs of_ w6 w8 X S hL hi6 hk1 hn1 hv ih
        · refine v_swIn X dL_law_40 (by decide) (by decide) (off := 1189) (by decide) (tgt := 1229) (by decide) ?_
          exact cs_judge l E Z b L oa x k i kc ns_ xs of_ w6 w8 X S hL hi6 hk1 hn1 hv ih
        · refine v_swIn X dL_law_40 (by decide) (by decide) (off := 1202) (by decide) (tgt := 1242) (by decide) ?_
          exact cs_shaves l E Z b L oa x k i kc ns_ xs of_ w6 w8 X S hL hi6 hk1 hn1 hv ih
        · refine v_swIn X dL_law_40 (by decide) (by decide) (off := 1311) (by decide) (tgt := 1351) (by decide) ?_
          exact cs_rests l E Z b L oa x k i kc ns_ xs of_ w6 w8 X S hL hi6 hk1 hn1 hv ih
        · refine v_swIn X dL_law_40 (by decide) (by decide) (off := 1336) (by decide) (tgt := 1376) (by decide) ?_
          exact cs_rest l E Z b L oa x k i kc ns_ xs of_ w6 w8 X S hL hi6 hk1 hn1 hv ih
        · refine v_swIn X dL_law_40 (by decide) (by decide) (off := 1361) (by decide) (tgt := 1401) (by decide) ?_
          exact cs_mayOdds l E Z b L oa x k i kc ns_ xs of_ w6 w8 X S hL hi6 hk1 hn1 hv ih
        · refine v_swIn X dL_law_40 (by decide) (by decide) (off := 1427) (by decide) (tgt := 1467) (by decide) ?_
          exact cs_freeOdds l E Z b L oa x k i kc ns_ xs of_ w6 w8 X S hL hi6 hk1 hn1 hv ih
        · refine v_swIn X dL_law_40 (by decide) (by decide) (off := 1481) (by decide) (tgt := 1521) (by decide) ?_
          exact cs_mean l E Z b L oa x k i kc ns_ xs of_ w6 w8 X S hL hi6 hk1 hn1 hv ih
        · refine v_swIn X dL_law_40 (by decide) (by decide) (off := 1535) (by decide) (tgt := 1575) (by decide) ?_
          exact cs_rained l E Z b L oa x k i kc ns_ xs of_ w6 w8 X S hL hi6 hk1 hn1 hv ih
        · refine v_swIn X dL_law_40 (by decide) (by decide) (off := 1572) (by decide) (tgt := 1612) (by decide) ?_
          exact cs_freeBy l E Z b L oa x k i kc ns_ xs of_ w6 w8 X S hL hi6 hk1 hn1 hv ih
        · refine v_swIn X dL_law_40 (by decide) (by decide) (off := 1621) (by decide) (tgt := 1661) (by decide) ?_
          exact cs_day l E Z b L oa x k i kc ns_ xs of_ w6 w8 X S hL hi6 hk1 hn1 hv ih
        · refine v_swIn X dL_law_40 (by decide) (by decide) (off := 1634) (by decide) (tgt := 1674) (by decide) ?_
          exact cs_press l E Z b L oa x k i kc ns_ xs of_ w6 w8 X S hL hi6 hk1 hn1 hv ih
        · refine v_swIn X dL_law_40 (by decide) (by decide) (off := 1671) (by decide) (tgt := 1711) (by decide) ?_
          exact cs_wash l E Z b L oa x k i kc ns_ xs of_ w6 w8 X S hL hi6 hk1 hn1 hv ih
        · refine v_swIn X dL_law_40 (by decide) (by decide) (off := 1696) (by decide) (tgt := 1736) (by decide) ?_
          exact cs_turn l E Z b L oa x k i kc ns_ xs of_ w6 w8 X S hL hi6 hk1 hn1 hv ih
        · refine v_swIn X dL_law_40 (by decide) (by decide) (off := 1721) (by decide) (tgt := 1761) (by decide) ?_
          exact cs_undo l E Z b L oa x k i kc ns_ xs of_ w6 w8 X S hL hi6 hk1 hn1 hv ih
        · refine v_swIn X dL_law_40 (by decide) (by decide) (off := 1734) (by decide) (tgt := 1774) (by decide) ?_
          exact cs_image l E Z b L oa x k i kc ns_ xs of_ w6 w8 X S hL hi6 hk1 hn1 hv ih
        · refine v_swIn X dL_law_40 (by decide) (by decide) (off := 1747) (by decide) (tgt := 1787) (by decide) ?_
          exact cs_back l E Z b L oa x k i kc ns_ xs of_ w6 w8 X S hL hi6 hk1 hn1 hv ih
        · refine v_swIn X dL_law_40 (by decide) (by decide) (off := 1772) (by decide) (tgt := 1812) (by decide) ?_
          exact hled i kc ns_ of_ w6 w8 hi6 hk1 hn1 hv ih
        · refine v_swIn X dL_law_40 (by decide) (by decide) (off := 1828) (by decide) (tgt := 1868) (by decide) ?_
          exact cs_size l E Z b L oa x k i kc ns_ xs of_ w6 w8 X S hL hi6 hk1 hn1 hv ih
        · refine v_swIn X dL_law_40 (by decide) (by decide) (off := 1853) (by decide) (tgt := 1893) (by decide) ?_
          exact cs_trouble l E Z b L oa x k i kc ns_ xs of_ w6 w8 X S hL hi6 hk1 hn1 hv ih
      · have ht : (nI v).toInt = v := by
          rw [show nI v = Int32.ofNat v from rfl, Int32.toInt_ofNat_of_lt (by omega)]
        refine v_swOut X dL_law_40 (Or.inr (by rw [ht]; omega)) (tgt := 1906) (by decide) ?_
        exact V_wid (by omega) (by omega) (ih w6 w8 of_ hv)
