set_option maxRecDepth 100000 in
set_option maxHeartbeats 2000000 in
theorem cs_feed (l : Launch) (E : Et) (Z : Zt) (b L oa x k i kc ns_ : Nat) (xs : Nat → Int32) (of_ : Nat → Int64) (w6 w8 : va_W) (X : Cx E l 40 601024 7293034 Z cL_law 7 yL_law (some .boolean)) (S : SC Z b L xs) (hL : L ≤ 3072) (hi : i + 6 ≤ L) (hk : kc + 20 ≤ 601024) (hn : ns_ + 200 ≤ 7293034) (hv : INV E x k w6 w8) (ih : ∀ (v6 v8 : va_W) (o9 : Nat → Int64), INV E x k v6 v8 → V E Z 1906 [(4, .int (nI i)), (3, .ref oa), (2, .ref k), (1, .ref x), (0, .ref b)] [] (v6 ++ (v8 ++ [aL E oa 1 o9])) (kc + 20) (ns_ + 200)) : V E Z 276 [(4, .int (nI i)), (3, .ref oa), (2, .ref k), (1, .ref x), (0, .ref b)] [] (w6 ++ (w8 ++ [aL E oa 1 of_])) kc ns_ := by
  obtain ⟨j6, fs6, hj6⟩ := iv6 hv
  obtain ⟨j8, fs8, hj8⟩ := iv8 hv
  refine v_aload_n X dL_law_276 rfl 3 rfl ?_
  refine v_aload_n X dL_law_277 rfl 4 rfl ?_
  refine v_iload X dL_law_278 0 rfl ?_
  refine v_iconst X dL_law_280 (v := nI 1) (by decide) ?_
  refine v_iadd X dL_law_281 ?_
  refine v_eqi (x' := nI (i + 1)) (nI_add _ _) ?_
  refine v_sld X S dL_law_282 (j := (i + 1)) (by omega) (by omega) ?_
  refine v_aload_n X dL_law_283 rfl 4 rfl ?_
  refine v_iload X dL_law_284 0 rfl ?_
  refine v_iconst X dL_law_286 (v := nI 2) (by decide) ?_
  refine v_iadd X dL_law_287 ?_
  refine v_eqi (x' := nI (i + 2)) (nI_add _ _) ?_
  refine v_sld X S dL_law_288 (j := (i + 2)) (by omega) (by omega) ?_
  refine v_aload_n X dL_law_289 rfl 4 rfl ?_
  refine v_iload X dL_law_290 0 rfl ?_
  refine v_iconst X dL_law_292 (v := nI 3) (by decide) ?_
  refine v_iadd X dL_law_293 ?_
  refine v_eqi (x' := nI (i + 3)) (nI_add _ _) ?_
  refine v_sld X S dL_law_294 (j := (i + 3)) (by omega) (by omega) ?_
  refine v_aload_n X dL_law_295 rfl 4 rfl ?_
  refine v_iload X dL_law_296 0 rfl ?_
  refine v_iconst X dL_law_298 (v := nI 4) (by decide) ?_
  refine v_iadd X dL_law_299 ?_
  refine v_eqi (x' := nI (i + 4)) (nI_add _ _) ?_
  refine v_sld X S dL_law_300 (j := (i + 4)) (by omega) (by omega) ?_
  refine v_aload_n X dL_law_301 rfl 4 rfl ?_
  refine v_iload X dL_law_302 0 rfl ?_
  refine v_iconst X dL_law_304 (v := nI 5) (by decide) ?_
  refine v_iadd X dL_law_305 ?_
  refine v_eqi (x' := nI (i + 5)) (nI_add _ _) ?_
  refine v_sld X S dL_law_306 (j := (i + 5)) (by omega) (by omega) ?_
  obtain ⟨P6, P8, h6, h8, hr6, hcm⟩ := op_feed l E x k (xs (i + 1)) (xs (i + 2)) (xs (i + 3)) (xs (i + 4)) (xs (i + 5)) w6 w8 hv
  refine v_nwP X (rn_V X k_X6_feed ml_L_19 dL_law_307 h6 rfl j6 hj6 kcX6.1 (by decide) (by decide) (by omega) (by omega) (Nat.le_of_ble_eq_true rfl)) (wr := w8 ++ [aL E oa 1 of_]) rfl (fun r w hp => ?_)
  obtain ⟨v, rfl⟩ := hr6 r w hp
  refine V.cast (st' := [.int v]) (ws' := w8 ++ ([aL E oa 1 of_] ++ w)) rfl rfl (List.append_assoc _ _ _) ?_
  refine v_aload_n X dL_law_310 rfl 2 rfl ?_
  refine v_aload_n X dL_law_311 rfl 4 rfl ?_
  refine v_iload X dL_law_312 0 rfl ?_
  refine v_iconst X dL_law_314 (v := nI 1) (by decide) ?_
  refine v_iadd X dL_law_315 ?_
  refine v_eqi (x' := nI (i + 1)) (nI_add _ _) ?_
  refine v_sld X S dL_law_316 (j := (i + 1)) (by omega) (by omega) ?_
  refine v_aload_n X dL_law_317 rfl 4 rfl ?_
  refine v_iload X dL_law_318 0 rfl ?_
  refine v_iconst X dL_law_320 (v := nI 2) (by decide) ?_
  refine v_iadd X dL_law_321 ?_
  refine v_eqi (x' := nI (i + 2)) (nI_add _ _) ?_
  refine v_sld X S dL_law_322 (j := (i + 2)) (by omega) (by omega) ?_
  refine v_aload_n X dL_law_323 rfl 4 rfl ?_
  refine v_iload X dL_law_324 0 rfl ?_
  refine v_iconst X dL_law_326 (v := nI 3) (by decide) ?_
  refine v_iadd X dL_law_327 ?_
  refine v_eqi (x' := nI (i + 3)) (nI_add _ _) ?_
  refine v_sld X S dL_law_328 (j := (i + 3)) (by omega) (by omega) ?_
  refine v_aload_n X dL_law_329 rfl 4 rfl ?_
  refine v_iload X dL_law_330 0 rfl ?_
  refine v_iconst X dL_law_332 (v := nI 4) (by decide) ?_
  refine v_iadd X dL_law_333 ?_
  refine v_eqi (x' := nI (i + 4)) (nI_add _ _) ?_
  refine v_sld X S dL_law_334 (j := (i + 4)) (by omega) (by omega) ?_
  refine v_aload_n X dL_law_335 rfl 4 rfl ?_
  refine v_iload X dL_law_336 0 rfl ?_
  refine v_iconst X dL_law_338 (v := nI 5) (by decide) ?_
  refine v_iadd X dL_law_339 ?_
  refine v_eqi (x' := nI (i + 5)) (nI_add _ _) ?_
  refine v_sld X S dL_law_340 (j := (i + 5)) (by omega) (by omega) ?_
  refine v_nwP X (rn_V X k_X8_feed ml_L_23 dL_law_341 h8 rfl j8 hj8 kcX8.1 (by decide) (by decide) (by omega) (by omega) (Nat.le_of_ble_eq_true rfl)) (wr := [aL E oa 1 of_] ++ w) rfl (fun r8 w9 hp8 => ?_)
  obtain ⟨er, hI⟩ := hcm _ _ _ _ hp hp8
  subst er
  refine V.cast (st' := [.int v, .int v]) (ws' := ([aL E oa 1 of_] ++ w) ++ w9) rfl rfl rfl ?_
  refine v_icmp_eq X dL_law_344 (tgt := 1906) (by decide) (fun _ => ?_) (fun h9 => absurd rfl h9)
  refine V_perm (pmz _ _ _) ?_
  exact V_wid (by omega) (by omega) (ih w w9 of_ hI)
set_option maxRecDepth 100000 in
set_option maxHeartbeats 2000000 in
theorem cs_city (l : Launch) (E : Et) (Z : Zt) (b L oa x k i kc ns_ : Nat) (xs : Nat → Int32) (of_ : Nat → Int64) (w6 w8 : va_W) (X : Cx E l 40 601024 7293034 Z cL_law 7 yL_law (some .boolean)) (S : SC Z b L xs) (hL : L ≤ 3072) (hi : i + 6 ≤ L) (hk : kc + 20 ≤ 601024) (hn : ns_ + 200 ≤ 7293034) (hv : INV E x k w6 w8) (ih : ∀ (v6 v8 : va_W) (o9 : Nat → Int64), INV E x k v6 v8 → V E Z 1906 [(4, .int (nI i)), (3, .ref oa), (2, .ref k), (1, .ref x), (0, .ref b)] [] (v6 ++ (v8 ++ [aL E oa 1 o9])) (kc + 20) (ns_ + 200)) : V E Z 349 [(4, .int (nI i)), (3, .ref oa), (2, .ref k), (1, .ref x), (0, .ref b)] [] (w6 ++ (w8 ++ [aL E oa 1 of_])) kc ns_ := by
  obtain ⟨j6, fs6, hj6⟩ := iv6 hv
  obtain ⟨j8, fs8, hj8⟩ := iv8 hv
  refine v_aload_n X dL_law_349 rfl 3 rfl ?_
  refine v_aload_n X dL_law_350 rfl 4 rfl ?_
  refine v_iload X dL_law_351 0 rfl ?_
  refine v_iconst X dL_law_353 (v := nI 1) (by decide) ?_
  refine v_iadd X dL_law_354 ?_
  refine v_eqi (x' := nI (i + 1)) (nI_add _ _) ?_
  refine v_sld X S dL_law_355 (j := (i + 1)) (by omega) (by omega) ?_
  obtain ⟨P6, P8, h6, h8, hr6, hcm⟩ := op_city l E x k (xs (i + 1)) w6 w8 hv
  refine v_nwP X (rn_V X k_X6_city ml_L_24 dL_law_356 h6 rfl j6 hj6 kcX6.1 (by decide) (by decide) (by omega) (by omega) (Nat.le_of_ble_eq_true rfl)) (wr := w8 ++ [aL E oa 1 of_]) rfl (fun r w hp => ?_)
  obtain ⟨v, rfl⟩ := hr6 r w hp
  refine V.cast (st' := [.int v]) (ws' := w8 ++ ([aL E oa 1 of_] ++ w)) rfl rfl (List.append_assoc _ _ _) ?_
  refine v_aload_n X dL_law_359 rfl 2 rfl ?_
  refine v_aload_n X dL_law_360 rfl 4 rfl ?_
  refine v_iload X dL_law_361 0 rfl ?_
  refine v_iconst X dL_law_363 (v := nI 1) (by decide) ?_
  refine v_iadd X dL_law_364 ?_
  refine v_eqi (x' := nI (i + 1)) (nI_add _ _) ?_
  refine v_sld X S dL_law_365 (j := (i + 1)) (by omega) (by omega) ?_
  refine v_nwP X (rn_V X k_X8_city ml_L_27 dL_law_366 h8 rfl j8 hj8 kcX8.1 (by decide) (by decide) (by omega) (by omega) (Nat.le_of_ble_eq_true rfl)) (wr := [aL E oa 1 of_] ++ w) rfl (fun r8 w9 hp8 => ?_)
  obtain ⟨er, hI⟩ := hcm _ _ _ _ hp hp8
  subst er
  refine V.cast (st' := [.int v, .int v]) (ws' := ([aL E oa 1 of_] ++ w) ++ w9) rfl rfl rfl ?_
  refine v_icmp_eq X dL_law_369 (tgt := 1906) (by decide) (fun _ => ?_) (fun h9 => absurd rfl h9)
  refine V_perm (pmz _ _ _) ?_
  exact V_wid (by omega) (by omega) (ih w w9 of_ hI)
set_option maxRecDepth 100000 in
set_option maxHeartbeats 2000000 in
theorem cs_fault (l : Launch) (E : Et) (Z : Zt) (b L oa x k i kc ns_ : Nat) (xs : Nat → Int32) (of_ : Nat → Int64) (w6 w8 : va_W) (X : Cx E l 40 601024 7293034 Z cL_law 7 yL_law (some .boolean)) (S : SC Z b L xs) (hL : L ≤ 3072) (hi : i + 6 ≤ L) (hk : kc + 20 ≤ 601024) (hn : ns_ + 200 ≤ 7293034) (hv : INV E x k w6 w8) (ih : ∀ (v6 v8 : va_W) (o9 : Nat → Int64), INV E x k v6 v8 → V E Z 1906 [(4, .int (nI i)), (3, .ref oa), (2, .ref k), (1, .ref x), (0, .ref b)] [] (v6 ++ (v8 ++ [aL E oa 1 o9])) (kc + 20) (ns_ + 200)) : V E Z 374 [(4, .int (nI i)), (3, .ref oa), (2, .ref k), (1, .ref x), (0, .ref b)] [] (w6 ++ (w8 ++ [aL E oa 1 of_])) kc ns_ := by
  obtain ⟨j6, fs6, hj6⟩ := iv6 hv
  obtain ⟨j8, fs8, hj8⟩ := iv8 hv
  refine v_aload_n X dL_law_374 rfl 3 rfl ?_
  obtain ⟨P6, P8, h6, h8, hr6, hcm⟩ := op_fault l E x k  w6 w8 hv
  refine v_nwP X (rn_V X k_X6_fault ml_L_28 dL_law_375 h6 rfl j6 hj6 kcX6.1 (by decide) (by decide) (by omega) (by omega) (Nat.le_of_ble_eq_true rfl)) (wr := w8 ++ [aL E oa 1 of_]) rfl (fun r w hp => ?_)
  obtain ⟨v, rfl⟩ := hr6 r w hp
  refine V.cast (st' := [.int v]) (ws' := w8 ++ ([aL E oa 1 of_] ++ w)) rfl rfl (List.append_assoc _ _ _) ?_
  refine v_aload_n X dL_law_378 rfl 2 rfl ?_
  refine v_nwP X (rn_V X k_X8_fault ml_L_32 dL_law_379 h8 rfl j8 hj8 kcX8.1 (by decide) (by decide) (by omega) (by omega) (Nat.le_of_ble_eq_true rfl)) (wr := [aL E oa 1 of_] ++ w) rfl (fun r8 w9 hp8 => ?_)
  obtain ⟨er, hI⟩ := hcm _ _ _ _ hp hp8
  subst er
  refine V.cast (st' := [.int v, .int v]) (ws' := ([aL E oa 1 of_] ++ w) ++ w9) rfl rfl rfl ?_
  refine v_icmp_eq X dL_law_382 (tgt := 1906) (by decide) (fun _ => ?_) (fun h9 => absurd rfl h9)
  refine V_perm (pmz _ _ _) ?_
  exact V_wid (by omega) (by omega) (ih w w9 of_ hI)
set_option maxRecDepth 100000 in
set_option maxHeartbeats 2000000 in
theorem cs_where (l : Launch) (E : Et) (Z : Zt) (b L oa x k i kc ns_ : Nat) (xs : Nat → Int32) (of_ : Nat → Int64) (w6 w8 : va_W) (X : Cx E l 40 601024 7293034 Z cL_law 7 yL_law (some .boolean)) (S : SC Z b L xs) (hL : L ≤ 3072) (hi : i + 6 ≤ L) (hk : kc + 20 ≤ 601024) (hn : ns_ + 200 ≤ 7293034) (hv : INV E x k w6 w8) (ih : ∀ (v6 v8 : va_W) (o9 : Nat → Int64), INV E x k v6 v8 → V E Z 1906 [(4, .int (nI i)), (3, .ref oa), (2, .ref k), (1, .ref x), (0, .ref b)] [] (v6 ++ (v8 ++ [aL E oa 1 o9])) (kc + 20) (ns_ + 200)) : V E Z 387 [(4, .int (nI i)), (3, .ref oa), (2, .ref k), (1, .ref x), (0, .ref b)] [] (w6 ++ (w8 ++ [aL E oa 1 of_])) kc ns_ := by
  obtain ⟨j6, fs6, hj6⟩ := iv6 hv
  obtain ⟨j8, fs8, hj8⟩ := iv8 hv
  refine v_aload_n X dL_law_387 rfl 3 rfl ?_
  obtain ⟨P6, P8, h6, h8, hr6, hcm⟩ := op_where l E x k  w6 w8 hv
  refine v_nwP X (rn_V X k_X6_where ml_L_33 dL_law_388 h6 rfl j6 hj6 kcX6.1 (by decide) (by decide) (by omega) (by omega) (Nat.le_of_ble_eq_true rfl)) (wr := w8 ++ [aL E oa 1 of_]) rfl (fun r w hp => ?_)
  obtain ⟨v, rfl⟩ := hr6 r w hp
  refine V.cast (st' := [.int v]) (ws' := w8 ++ ([aL E oa 1 of_] ++ w)) rfl rfl (List.append_assoc _ _ _) ?_
  refine v_aload_n X dL_law_391 rfl 2 rfl ?_
  refine v_nwP X (rn_V X k_X8_where ml_L_36 dL_law_392 h8 rfl j8 hj8 kcX8.1 (by decide) (by decide) (by omega) (by omega) (Nat.le_of_ble_eq_true rfl)) (wr := [aL E oa 1 of_] ++ w) rfl (fun r8 w9 hp8 => ?_)
  obtain ⟨er, hI⟩ := hcm _ _ _ _ hp hp8
  subst er
  refine V.cast (st' := [.int v, .int v]) (ws' := ([aL E oa 1 of_] ++ w) ++ w9) rfl rfl rfl ?_
  refine v_icmp_eq X dL_law_395 (tgt := 1906) (by decide) (fun _ => ?_) (fun h9 => absurd rfl h9)
  refine V_perm (pmz _ _ _) ?_
  exact V_wid (by omega) (by omega) (ih w w9 of_ hI)
set_option maxRecDepth 100000 in
set_option maxHeartbeats 2000000 in
theorem cs_clause (l : Launch) (E : Et) (Z : Zt) (b L oa x k i kc ns_ : Nat) (xs : Nat → Int32) (of_ : Nat → Int64) (w6 w8 : va_W) (X : Cx E l 40 601024 7293034 Z cL_law 7 yL_law (some .boolean)) (S : SC Z b L xs) (hL : L ≤ 3072) (hi : i + 6 ≤ L) (hk : kc + 20 ≤ 601024) (hn : ns_ + 200 ≤ 7293034) (hv : INV E x k w6 w8) (ih : ∀ (v6 v8 : va_W) (o9 : Nat → Int64), INV E x k v6 v8 → V E Z 1906 [(4, .int (nI i)), (3, .ref oa), (2, .ref k), (1, .ref x), (0, .ref b)] [] (v6 ++ (v8 ++ [aL E oa 1 o9])) (kc + 20) (ns_ + 200)) : V E Z 400 [(4, .int (nI i)), (3, .ref oa), (2, .ref k), (1, .ref x), (0, .ref b)] [] (w6 ++ (w8 ++ [aL E oa 1 of_])) kc ns_ := by
  obtain ⟨j6, fs6, hj6⟩ := iv6 hv
  obtain ⟨j8, fs8, hj8⟩ := iv8 hv
  refine v_aload_n X dL_law_400 rfl 3 rfl ?_
  refine v_aload_n X dL_law_401 rfl 4 rfl ?_
  refine v_iload X dL_law_402 0 rfl ?_
  refine v_iconst X dL_law_404 (v := nI 1) (by decide) ?_
  refine v_iadd X dL_law_405 ?_
  refine v_eqi (x' := nI (i + 1)) (nI_add _ _) ?_
  refine v_sld X S dL_law_406 (j := (i + 1)) (by omega) (by omega) ?_
  refine v_aload_n X dL_law_407 rfl 4 rfl ?_
  refine v_iload X dL_law_408 0 rfl ?_
  refine v_iconst X dL_law_410 (v := nI 2) (by decide) ?_
  refine v_iadd X dL_law_411 ?_
  refine v_eqi (x' := nI (i + 2)) (nI_add _ _) ?_
  refine v_sld X S dL_law_412 (j := (i + 2)) (by omega) (by omega) ?_
  obtain ⟨P6, P8, h6, h8, hr6, hcm⟩ := op_clause l E x k (xs (i + 1)) (xs (i + 2)) w6 w8 hv
  refine v_nwP X (rn_V X k_X6_clause ml_L_37 dL_law_413 h6 rfl j6 hj6 kcX6.1 (by decide) (by decide) (by omega) (by omega) (Nat.le_of_ble_eq_true rfl)) (wr := w8 ++ [aL E oa 1 of_]) rfl (fun r w hp => ?_)
  obtain ⟨v, rfl⟩ := hr6 r w hp
  refine V.cast (st' := [.int v]) (ws' := w8 ++ ([aL E oa 1 of_] ++ w)) rfl rfl (List.append_assoc _ _ _) ?_
  refine v_aload_n X dL_law_416 rfl 2 rfl ?_
  refine v_aload_n X dL_law_417 rfl 4 rfl ?_
  refine v_iload X dL_law_418 0 rfl ?_
  refine v_iconst X dL_law_420 (v := nI 1) (by decide) ?_
  refine v_iadd X dL_law_421 ?_
  refine v_eqi (x' := nI (i + 1)) (nI_add _ _) ?_
  refine v_sld X S dL_law_422 (j := (i + 1)) (by omega) (by omega) ?_
  refine v_aload_n X dL_law_423 rfl 4 rfl ?_
  refine v_iload X dL_law_424 0 rfl ?_
  refine v_iconst X dL_law_426 (v := nI 2) (by decide) ?_
  refine v_iadd X dL_law_427 ?_
  refine v_eqi (x' := nI (i + 2)) (nI_add _ _) ?_
  refine v_sld X S dL_law_428 (j := (i + 2)) (by omega) (by omega) ?_
  refine v_nwP X (rn_V X k_X8_clause ml_L_41 dL_law_429 h8 rfl j8 hj8 kcX8.1 (by decide) (by decide) (by omega) (by omega) (Nat.le_of_ble_eq_true rfl)) (wr := [aL E oa 1 of_] ++ w) rfl (fun r8 w9 hp8 => ?_)
  obtain ⟨er, hI⟩ := hcm _ _ _ _ hp hp8
  subst er
  refine V.cast (st' := [.int v, .int v]) (ws' := ([aL E oa 1 of_] ++ w) ++ w9) rfl rfl rfl ?_
  refine v_icmp_eq X dL_law_432 (tgt := 1906) (by decide) (fun _ => ?_) (fun h9 => absurd rfl h9)
  refine V_perm (pmz _ _ _) ?_
  exact V_wid (by omega) (by omega) (ih w w9 of_ hI)
set_option maxRecDepth 100000 in
set_option maxHeartbeats 2000000 in
theorem cs_man (l : Launch) (E : Et) (Z : Zt) (b L oa x k i kc ns_ : Nat) (xs : Nat → Int32) (of_ : Nat → Int64) (w6 w8 : va_W) (X : Cx E l 40 601024 7293034 Z cL_law 7 yL_law (some .boolean)) (S : SC Z b L xs) (hL : L ≤ 3072) (hi : i + 6 ≤ L) (hk : kc + 20 ≤ 601024) (hn : ns_ + 200 ≤ 7293034) (hv : INV E x k w6 w8) (ih : ∀ (v6 v8 : va_W) (o9 : Nat → Int64), INV E x k v6 v8 → V E Z 1906 [(4, .int (nI i)), (3, .ref oa), (2, .ref k), (1, .ref x), (0, .ref b)] [] (v6 ++ (v8 ++ [aL E oa 1 o9])) (kc + 20) (ns_ + 200)) : V E Z 437 [(4, .int (nI i)), (3, .ref oa), (2, .ref k), (1, .ref x), (0, .ref b)] [] (w6 ++ (w8 ++ [aL E oa 1 of_])) kc ns_ := by
  obtain ⟨j6, fs6, hj6⟩ := iv6 hv
  obtain ⟨j8, fs8, hj8⟩ := iv8 hv
  refine v_aload_n X dL_law_437 rfl 3 rfl ?_
  refine v_aload_n X dL_law_438 rfl 4 rfl ?_
  refine v_iload X dL_law_439 0 rfl ?_
  refine v_iconst X dL_law_441 (v := nI 1) (by decide) ?_
  refine v_iadd X dL_law_442 ?_
  refine v_eqi (x' := nI (i + 1)) (nI_add _ _) ?_
  refine v_sld X S dL_law_443 (j := (i + 1)) (by omega) (by omega) ?_
  refine v_aload_n X dL_law_444 rfl 4 rfl ?_
  refine v_iload X dL_law_445 0 rfl ?_
  refine v_iconst X dL_law_447 (v := nI 2) (by decide) ?_
  refine v_iadd X dL_law_448 ?_
  refine v_eqi (x' := nI (i + 2)) (nI_add _ _) ?_
  refine v_sld X S dL_law_449 (j := (i + 2)) (by omega) (by omega) ?_
  obtain ⟨P6, P8, h6, h8, hr6, hcm⟩ := op_man l E x k (xs (i + 1)) (xs (i + 2)) w6 w8 hv
  refine v_nwP X (rn_V X k_X6_man ml_L_42 dL_law_450 h6 rfl j6 hj6 kcX6.1 (by decide) (by decide) (by omega) (by omega) (Nat.le_of_ble_eq_true rfl)) (wr := w8 ++ [aL E oa 1 of_]) rfl (fun r w hp => ?_)
  obtain ⟨v, rfl⟩ := hr6 r w hp
  refine V.cast (st' := [.int v]) (ws' := w8 ++ ([aL E oa 1 of_] ++ w)) rfl rfl (List.append_assoc _ _ _) ?_
  refine v_aload_n X dL_law_453 rfl 2 rfl ?_
  refine v_aload_n X dL_law_454 rfl 4 rfl ?_
  refine v_iload X dL_law_455 0 rfl ?_
  refine v_iconst X dL_law_457 (v := nI 1) (by decide) ?_
  refine v_iadd X dL_law_458 ?_
  refine v_eqi (x' := nI (i + 1)) (nI_add _ _) ?_
  refine v_sld X S dL_law_459 (j := (i + 1)) (by omega) (by omega) ?_
  refine v_aload_n X dL_law_460 rfl 4 rfl ?_
  refine v_iload X dL_law_461 0 rfl ?_
  refine v_iconst X dL_law_463 (v := nI 2) (by decide) ?_
  refine v_iadd X dL_law_464 ?_
  refine v_eqi (x' := nI (i + 2)) (nI_add _ _) ?_
  refine v_sld X S dL_law_465 (j := (i + 2)) (by omega) (by omega) ?_
  refine v_nwP X (rn_V X k_X8_man ml_L_45 dL_law_466 h8 rfl j8 hj8 kcX8.1 (by decide) (by decide) (by omega) (by omega) (Nat.le_of_ble_eq_true rfl)) (wr := [aL E oa 1 of_] ++ w) rfl (fun r8 w9 hp8 => ?_)
  obtain ⟨er, hI⟩ := hcm _ _ _ _ hp hp8
  subst er
  refine V.cast (st' := [.int v, .int v]) (ws' := ([aL E oa 1 of_] ++ w) ++ w9) rfl rfl rfl ?_
  refine v_icmp_eq X dL_law_469 (tgt := 1906) (by decide) (fun _ => ?_) (fun h9 => absurd rfl h9)
  refine V_perm (pmz _ _ _) ?_
  exact V_wid (by omega) (by omega) (ih w w9 of_ hI)
set_option maxRecDepth 100000 in
set_option maxHeartbeats 2000000 in
theorem cs_keeps (l : Launch) (E : Et) (Z : Zt) (b L oa x k i kc ns_ : Nat) (xs : Nat → Int32) (of_ : Nat → Int64) (w6 w8 : va_W) (X : Cx E l 40 601024 7293034 Z cL_law 7 yL_law (some .boolean)) (S : SC Z b L xs) (hL : L ≤ 3072) (hi : i + 6 ≤ L) (hk : kc + 20 ≤ 601024) (hn : ns_ + 200 ≤ 7293034) (hv : INV E x k w6 w8) (ih : ∀ (v6 v8 : va_W) (o9 : Nat → Int64), INV E x k v6 v8 → V E Z 1906 [(4, .int (nI i)), (3, .ref oa), (2, .ref k), (1, .ref x), (0, .ref b)] [] (v6 ++ (v8 ++ [aL E oa 1 o9])) (kc + 20) (ns_ + 200)) : V E Z 474 [(4, .int (nI i)), (3, .ref oa), (2, .ref k), (1, .ref x), (0, .ref b)] [] (w6 ++ (w8 ++ [aL E oa 1 of_])) kc ns_ := by
  obtain ⟨j6, fs6, hj6⟩ := iv6 hv
  obtain ⟨j8, fs8, hj8⟩ := iv8 hv
  refine v_aload_n X dL_law_474 rfl 3 rfl ?_
  refine v_aload_n X dL_law_475 rfl 4 rfl ?_
  refine v_iload X dL_law_476 0 rfl ?_
  refine v_iconst X dL_law_478 (v := nI 1) (by decide) ?_
  refine v_iadd X dL_law_479 ?_
  refine v_eqi (x' := nI (i + 1)) (nI_add _ _) ?_
  refine v_sld X S dL_law_480 (j := (i + 1)) (by omega) (by omega) ?_
  refine v_aload_n X dL_law_481 rfl 4 rfl ?_
  refine v_iload X dL_law_482 0 rfl ?_
  refine v_iconst X dL_law_484 (v := nI 2) (by decide) ?_
  refine v_iadd X dL_law_485 ?_
  refine v_eqi (x' := nI (i + 2)) (nI_add _ _) ?_
  refine v_sld X S dL_law_486 (j := (i + 2)) (by omega) (by omega) ?_
  obtain ⟨P6, P8, h6, h8, hr6, hcm⟩ := op_keeps l E x k (xs (i + 1)) (xs (i + 2)) w6 w8 hv
  refine v_nwP X (rn_V X k_X6_keeps ml_L_46 dL_law_487 h6 rfl j6 hj6 kcX6.1 (by decide) (by decide) (by omega) (by omega) (Nat.le_of_ble_eq_true rfl)) (wr := w8 ++ [aL E oa 1 of_]) rfl (fun r w hp => ?_)
  obtain ⟨v, rfl⟩ := hr6 r w hp
  refine V.cast (st' := [.int v]) (ws' := w8 ++ ([aL E oa 1 of_] ++ w)) rfl rfl (List.append_assoc _ _ _) ?_
  refine v_aload_n X dL_law_490 rfl 2 rfl ?_
  refine v_aload_n X dL_law_491 rfl 4 rfl ?_
  refine v_iload X dL_law_492 0 rfl ?_
  refine v_iconst X dL_law_494 (v := nI 1) (by decide) ?_
  refine v_iadd X dL_law_495 ?_
  refine v_eqi (x' := nI (i + 1)) (nI_add _ _) ?_
  refine v_sld X S dL_law_496 (j := (i + 1)) (by omega) (by omega) ?_
  refine v_aload_n X dL_law_497 rfl 4 rfl ?_
  refine v_iload X dL_law_498 0 rfl ?_
  refine v_iconst X dL_law_500 (v := nI 2) (by decide) ?_
  refine v_iadd X dL_law_501 ?_
  refine v_eqi (x' := nI (i + 2)) (nI_add _ _) ?_
  refine v_sld X S dL_law_502 (j := (i + 2)) (by omega) (by omega) ?_
  refine v_nwP X (rn_V X k_X8_keeps ml_L_49 dL_law_503 h8 rfl j8 hj8 kcX8.1 (by decide) (by decide) (by omega) (by omega) (Nat.le_of_ble_eq_true rfl)) (wr := [aL E oa 1 of_] ++ w) rfl (fun r8 w9 hp8 => ?_)
  obtain ⟨er, hI⟩ := hcm _ _ _ _ hp hp8
  subst er
  refine V.cast (st' := [.int v, .int v]) (ws' := ([aL E oa 1 of_] ++ w) ++ w9) rfl rfl rfl ?_
  refine v_icmp_eq X dL_law_506 (tgt := 1906) (by decide) (fun _ => ?_) (fun h9 => absurd rfl h9)
  refine V_perm (pmz _ _ _) ?_
  exact V_wid (by omega) (by omega) (ih w w9 of_ hI)
set_option maxRecDepth 100000 in
set_option maxHeartbeats 2000000 in
theorem cs_may (l : Launch) (E : Et) (Z : Zt) (b L oa x k i kc ns_ : Nat) (xs : Nat → Int32) (of_ : Nat → Int64) (w6 w8 : va_W) (X : Cx E l 40 601024 7293034 Z cL_law 7 yL_law (some .boolean)) (S : SC Z b L xs) (hL : L ≤ 3072) (hi : i + 6 ≤ L) (hk : kc + 20 ≤ 601024) (hn : ns_ + 200 ≤ 7293034) (hv : INV E x k w6 w8) (ih : ∀ (v6 v8 : va_W) (o9 : Nat → Int64), INV E x k v6 v8 → V E Z 1906 [(4, .int (nI i)), (3, .ref oa), (2, .ref k), (1, .ref x), (0, .ref b)] [] (v6 ++ (v8 ++ [aL E oa 1 o9])) (kc + 20) (ns_ + 200)) : V E Z 511 [(4, .int (nI i)), (3, .ref oa), (2, .ref k), (1, .ref x), (0, .ref b)] [] (w6 ++ (w8 ++ [aL E oa 1 of_])) kc ns_ := by
  obtain ⟨j6, fs6, hj6⟩ := iv6 hv
  obtain ⟨j8, fs8, hj8⟩ := iv8 hv
  refine v_aload_n X dL_law_511 rfl 3 rfl ?_
  refine v_aload_n X dL_law_512 rfl 4 rfl ?_
  refine v_iload X dL_law_513 0 rfl ?_
  refine v_iconst X dL_law_515 (v := nI 1) (by decide) ?_
  refine v_iadd X dL_law_516 ?_
  refine v_eqi (x' := nI (i + 1)) (nI_add _ _) ?_
  refine v_sld X S dL_law_517 (j := (i + 1)) (by omega) (by omega) ?_
  refine v_aload_n X dL_law_518 rfl 4 rfl ?_
  refine v_iload X dL_law_519 0 rfl ?_
  refine v_iconst X dL_law_521 (v := nI 2) (by decide) ?_
  refine v_iadd X dL_law_522 ?_
  refine v_eqi (x' := nI (i + 2)) (nI_add _ _) ?_
  refine v_sld X S dL_law_523 (j := (i + 2)) (by omega) (by omega) ?_
  obtain ⟨P6, P8, h6, h8, hr6, hcm⟩ := op_may l E x k (xs (i + 1)) (xs (i + 2)) w6 w8 hv
  refine v_nwP X (rn_V X k_X6_may ml_L_50 dL_law_524 h6 rfl j6 hj6 kcX6.1 (by decide) (by decide) (by omega) (by omega) (Nat.le_of_ble_eq_true rfl)) (wr := w8 ++ [aL E oa 1 of_]) rfl (fun r w hp => ?_)
  obtain ⟨v, rfl⟩ := hr6 r w hp
  refine V.cast (st' := [.int v]) (ws' := w8 ++ ([aL E oa 1 of_] ++ w)) rfl rfl (List.append_assoc _ _ _) ?_
  refine v_aload_n X dL_law_527 rfl 2 rfl ?_
  refine v_aload_n X dL_law_528 rfl 4 rfl ?_
  refine v_iload X dL_law_529 0 rfl ?_
  refine v_iconst X dL_law_531 (v := nI 1) (by decide) ?_
  refine v_iadd X dL_law_532 ?_
  refine v_eqi (x' := nI (i + 1)) (nI_add _ _) ?_
  refine v_sld X S dL_law_533 (j := (i + 1)) (by omega) (by omega) ?_
  refine v_aload_n X dL_law_534 rfl 4 rfl ?_
  refine v_iload X dL_law_535 0 rfl ?_
  refine v_iconst X dL_law_537 (v := nI 2) (by decide) ?_
  refine v_iadd X dL_law_538 ?_
  refine v_eqi (x' := nI (i + 2)) (nI_add _ _) ?_
  refine v_sld X S dL_law_539 (j := (i + 2)) (by omega) (by omega) ?_
  refine v_nwP X (rn_V X k_X8_may ml_L_53 dL_law_540 h8 rfl j8 hj8 kcX8.1 (by decide) (by decide) (by omega) (by omega) (Nat.le_of_ble_eq_true rfl)) (wr := [aL E oa 1 of_] ++ w) rfl (fun r8 w9 hp8 => ?_)
  obtain ⟨er, hI⟩ := hcm _ _ _ _ hp hp8
  subst er
  refine V.cast (st' := [.int v, .int v]) (ws' := ([aL E oa 1 of_] ++ w) ++ w9) rfl rfl rfl ?_
  refine v_icmp_eq X dL_law_543 (tgt := 1906) (by decide) (fun _ => ?_) (fun h9 => absurd rfl h9)
  refine V_perm (pmz _ _ _) ?_
  exact V_wid (by omega) (by omega) (ih w w9 of_ hI)
set_option maxRecDepth 100000 in
set_option maxHeartbeats 2000000 in
theorem cs_ways (l : Launch) (E : Et) (Z : Zt) (b L oa x k i kc ns_ : Nat) (xs : Nat → Int32) (of_ : Nat → Int64) (w6 w8 : va_W) (X : Cx E l 40 601024 7293034 Z cL_law 7 yL_law (some .boolean)) (S : SC Z b L xs) (hL : L ≤ 3072) (hi : i + 6 ≤ L) (hk : kc + 20 ≤ 601024) (hn : ns_ + 200 ≤ 7293034) (hv : INV E x k w6 w8) (ih : ∀ (v6 v8 : va_W) (o9 : Nat → Int64), INV E x k v6 v8 → V E Z 1906 [(4, .int (nI i)), (3, .ref oa), (2, .ref k), (1, .ref x), (0, .ref b)] [] (v6 ++ (v8 ++ [aL E oa 1 o9])) (kc + 20) (ns_ + 200)) : V E Z 548 [(4, .int (nI i)), (3, .ref oa), (2, .ref k), (1, .ref x), (0, .ref b)] [] (w6 ++ (w8 ++ [aL E oa 1 of_])) kc ns_ := by
  obtain ⟨j6, fs6, hj6⟩ := iv6 hv
  obtain ⟨j8, fs8, hj8⟩ := iv8 hv
  refine v_aload_n X dL_law_548 rfl 3 rfl ?_
  refine v_aload_n X dL_law_549 rfl 4 rfl ?_
  refine v_iload X dL_law_550 0 rfl ?_
  refine v_iconst X dL_law_552 (v := nI 1) (by decide) ?_
  refine v_iadd X dL_law_553 ?_
  refine v_eqi (x' := nI (i + 1)) (nI_add _ _) ?_
  refine v_sld X S dL_law_554 (j := (i + 1)) (by omega) (by omega) ?_
  obtain ⟨P6, P8, h6, h8, hr6, hcm⟩ := op_ways l E x k (xs (i + 1)) w6 w8 hv
  refine v_nwP X (rn_V X k_X6_ways ml_L_54 dL_law_555 h6 rfl j6 hj6 kcX6.1 (by decide) (by decide) (by omega) (by omega) (Nat.le_of_ble_eq_true rfl)) (wr := w8 ++ [aL E oa 1 of_]) rfl (fun r w hp => ?_)
  obtain ⟨v, rfl⟩ := hr6 r w hp
  refine V.cast (st' := [.int v]) (ws' := w8 ++ ([aL E oa 1 of_] ++ w)) rfl rfl (List.append_assoc _ _ _) ?_
  refine v_aload_n X dL_law_558 rfl 2 rfl ?_
  refine v_aload_n X dL_law_559 rfl 4 rfl ?_
  refine v_iload X dL_law_560 0 rfl ?_
  refine v_iconst X dL_law_562 (v := nI 1) (by decide) ?_
  refine v_iadd X dL_law_563 ?_
  refine v_eqi (x' := nI (i + 1)) (nI_add _ _) ?_
  refine v_sld X S dL_law_564 (j := (i + 1)) (by omega) (by omega) ?_
  refine v_nwP X (rn_V X k_X8_ways ml_L_57 dL_law_565 h8 rfl j8 hj8 kcX8.1 (by decide) (by decide) (by omega) (by omega) (Nat.le_of_ble_eq_true rfl)) (wr := [aL E oa 1 of_] ++ w) rfl (fun r8 w9 hp8 => ?_)
  obtain ⟨er, hI⟩ := hcm _ _ _ _ hp hp8
  subst er
  refine V.cast (st' := [.int v, .int v]) (ws' := ([aL E oa 1 of_] ++ w) ++ w9) rfl rfl rfl ?_
  refine v_icmp_eq X dL_law_568 (tgt := 1906) (by decide) (fun _ => ?_) (fun h9 => absurd rfl h9)
  refine V_perm (pmz _ _ _) ?_
  exact V_wid (by omega) (by omega) (ih w w9 of_ hI)
set_option maxRecDepth 100000 in
set_option maxHeartbeats 2000000 in
theorem cs_wayAt (l : Launch) (E : Et) (Z : Zt) (b L oa x k i kc ns_ : Nat) (xs : Nat → Int32) (of_ : Nat → Int64) (w6 w8 : va_W) (X : Cx E l 40 601024 7293034 Z cL_law 7 yL_law (some .boolean)) (S : SC Z b L xs) (hL : L ≤ 3072) (hi : i + 6 ≤ L) (hk : kc + 20 ≤ 601024) (hn : ns_ + 200 ≤ 7293034) (hv : INV E x k w6 w8) (ih : ∀ (v6 v8 : va_W) (o9 : Nat → Int64), INV E x k v6 v8 → V E Z 1906 [(4, .int (nI i)), (3, .ref oa), (2, .ref k), (1, .ref x), (0, .ref b)] [] (v6 ++ (v8 ++ [aL E oa 1 o9])) (kc + 20) (ns_ + 200)) : V E Z 573 [(4, .int (nI i)), (3, .ref oa), (2, .ref k), (1, .ref x), (0, .ref b)] [] (w6 ++ (w8 ++ [aL E oa 1 of_])) kc ns_ := by
  obtain ⟨j6, fs6, hj6⟩ := iv6 hv
  obtain ⟨j8, fs8, hj8⟩ := iv8 hv
  refine v_aload_n X dL_law_573 rfl 3 rfl ?_
  refine v_aload_n X dL_law_574 rfl 4 rfl ?_
  refine v_iload X dL_law_575 0 rfl ?_
  refine v_iconst X dL_law_577 (v := nI 1) (by decide) ?_
  refine v_iadd X dL_law_578 ?_
  refine v_eqi (x' := nI (i + 1)) (nI_add _ _) ?_
  refine v_sld X S dL_law_579 (j := (i + 1)) (by omega) (by omega) ?_
  refine v_aload_n X dL_law_580 rfl 4 rfl ?_
  refine v_iload X dL_law_581 0 rfl ?_
  refine v_iconst X dL_law_583 (v := nI 2) (by decide) ?_
  refine v_iadd X dL_law_584 ?_
  refine v_eqi (x' := nI (i + 2)) (nI_add _ _) ?_
  refine v_sld X S dL_law_585 (j := (i + 2)) (by omega) (by omega) ?_
  obtain ⟨P6, P8, h6, h8, hr6, hcm⟩ := op_wayAt l E x k (xs (i + 1)) (xs (i + 2)) w6 w8 hv
  refine v_nwP X (rn_V X k_X6_wayAt ml_L_58 dL_law_586 h6 rfl j6 hj6 kcX6.1 (by decide) (by decide) (by omega) (by omega) (Nat.le_of_ble_eq_true rfl)) (wr := w8 ++ [aL E oa 1 of_]) rfl (fun r w hp => ?_)
  obtain ⟨v, rfl⟩ := hr6 r w hp
  refine V.cast (st' := [.int v]) (ws' := w8 ++ ([aL E oa 1 of_] ++ w)) rfl rfl (List.append_assoc _ _ _) ?_
  refine v_aload_n X dL_law_589 rfl 2 rfl ?_
  refine v_aload_n X dL_law_590 rfl 4 rfl ?_
  refine v_iload X dL_law_591 0 rfl ?_
  refine v_iconst X dL_law_593 (v := nI 1) (by decide) ?_
  refine v_iadd X dL_law_594 ?_
  refine v_eqi (x' := nI (i + 1)) (nI_add _ _) ?_
  refine v_sld X S dL_law_595 (j := (i + 1)) (by omega) (by omega) ?_
  refine v_aload_n X dL_law_596 rfl 4 rfl ?_
  refine v_iload X dL_law_597 0 rfl ?_
  refine v_iconst X dL_law_599 (v := nI 2) (by decide) ?_
  refine v_iadd X dL_law_600 ?_
  refine v_eqi (x' := nI (i + 2)) (nI_add _ _) ?_
  refine v_sld X S dL_law_601 (j := (i + 2)) (by omega) (by omega) ?_
  refine v_nwP X (rn_V X k_X8_wayAt ml_L_61 dL_law_602 h8 rfl j8 hj8 kcX8.1 (by decide) (by decide) (by omega) (by omega) (Nat.le_of_ble_eq_true rfl)) (wr := [aL E oa 1 of_] ++ w) rfl (fun r8 w9 hp8 => ?_)
  obtain ⟨er, hI⟩ := hcm _ _ _ _ hp hp8
  subst er
  refine V.cast (st' := [.int v, .int v]) (ws' := ([aL E oa 1 of_] ++ w) ++ w9) rfl rfl rfl ?_
  refine v_icmp_eq X dL_law_605 (tgt := 1906) (by decide) (fun _ => ?_) (fun h9 => absurd rfl h9)
  refine V_perm (pmz _ _ _) ?_
  exact V_wid (by omega) (by omega) (ih w w9 of_ hI)
set_option maxRecDepth 100000 in
set_option maxHeartbeats 2000000 in
theorem cs_can (l : Launch) (E : Et) (Z : Zt) (b L oa x k i kc ns_ : Nat) (xs : Nat → Int32) (of_ : Nat → Int64) (w6 w8 : va_W) (X : Cx E l 40 601024 7293034 Z cL_law 7 yL_law (some .boolean)) (S : SC Z b L xs) (hL : L ≤ 3072) (hi : i + 6 ≤ L) (hk : kc + 20 ≤ 601024) (hn : ns_ + 200 ≤ 7293034) (hv : INV E x k w6 w8) (ih : ∀ (v6 v8 : va_W) (o9 : Nat → Int64), INV E x k v6 v8 → V E Z 1906 [(4, .int (nI i)), (3, .ref oa), (2, .ref k), (1, .ref x), (0, .ref b)] [] (v6 ++ (v8 ++ [aL E oa 1 o9])) (kc + 20) (ns_ + 200)) : V E Z 610 [(4, .int (nI i)), (3, .ref oa), (2, .ref k), (1, .ref x), (0, .ref b)] [] (w6 ++ (w8 ++ [aL E oa 1 of_])) kc ns_ := by
  obtain ⟨j6, fs6, hj6⟩ := iv6 hv
  obtain ⟨j8, fs8, hj8⟩ := iv8 hv
  refine v_aload_n X dL_law_610 rfl 3 rfl ?_
  refine v_aload_n X dL_law_611 rfl 4 rfl ?_
  refine v_iload X dL_law_612 0 rfl ?_
  refine v_iconst X dL_law_614 (v := nI 1) (by decide) ?_
  refine v_iadd X dL_law_615 ?_
  refine v_eqi (x' := nI (i + 1)) (nI_add _ _) ?_
  refine v_sld X S dL_law_616 (j := (i + 1)) (by omega) (by omega) ?_
  obtain ⟨P6, P8, h6, h8, hr6, hcm⟩ := op_can l E x k (xs (i + 1)) w6 w8 hv
  refine v_nwP X (rn_V X k_X6_can ml_L_62 dL_law_617 h6 rfl j6 hj6 kcX6.1 (by decide) (by decide) (by omega) (by omega) (Nat.le_of_ble_eq_true rfl)) (wr := w8 ++ [aL E oa 1 of_]) rfl (fun r w hp => ?_)
  obtain ⟨v, rfl⟩ := hr6 r w hp
  refine V.cast (st' := [.int v]) (ws' := w8 ++ ([aL E oa 1 of_] ++ w)) rfl rfl (List.append_assoc _ _ _) ?_
  refine v_aload_n X dL_law_620 rfl 2 rfl ?_
  refine v_aload_n X dL_law_621 rfl 4 rfl ?_
  refine v_iload X dL_law_622 0 rfl ?_
  refine v_iconst X dL_law_624 (v := nI 1) (by decide) ?_
  refine v_iadd X dL_law_625 ?_
  refine v_eqi (x' := nI (i + 1)) (nI_add _ _) ?_
  refine v_sld X S dL_law_626 (j := (i + 1)) (by omega) (by omega) ?_
  refine v_nwP X (rn_V X k_X8_can ml_L_65 dL_law_627 h8 rfl j8 hj8 kcX8.1 (by decide) (by decide) (by omega) (by omega) (Nat.le_of_ble_eq_true rfl)) (wr := [aL E oa 1 of_] ++ w) rfl (fun r8 w9 hp8 => ?_)
  obtain ⟨er, hI⟩ := hcm _ _ _ _ hp hp8
  subst er
  refine V.cast (st' := [.int v, .int v]) (ws' := ([aL E oa 1 of_] ++ w) ++ w9) rfl rfl rfl ?_
  refine v_icmp_eq X dL_law_630 (tgt := 1906) (by decide) (fun _ => ?_) (fun h9 => absurd rfl h9)
  refine V_perm (pmz _ _ _) ?_
  exact V_wid (by omega) (by omega) (ih w w9 of_ hI)
set_option maxRecDepth 100000 in
set_option maxHeartbeats 2000000 in
theorem cs_must (l : Launch) (E : Et) (Z : Zt) (b L oa x k i kc ns_ : Nat) (xs : Nat → Int32) (of_ : Nat → Int64) (w6 w8 : va_W) (X : Cx E l 40 601024 7293034 Z cL_law 7 yL_law (some .boolean)) (S : SC Z b L xs) (hL : L ≤ 3072) (hi : i + 6 ≤ L) (hk : kc + 20 ≤ 601024) (hn : ns_ + 200 ≤ 7293034) (hv : INV E x k w6 w8) (ih : ∀ (v6 v8 : va_W) (o9 : Nat → Int64), INV E x k v6 v8 → V E Z 1906 [(4, .int (nI i)), (3, .ref oa), (2, .ref k), (1, .ref x), (0, .ref b)] [] (v6 ++ (v8 ++ [aL E oa 1 o9])) (kc + 20) (ns_ + 200)) : V E Z 635 [(4, .int (nI i)), (3, .ref oa), (2, .ref k), (1, .ref x), (0, .ref b)] [] (w6 ++ (w8 ++ [aL E oa 1 of_])) kc ns_ := by
  obtain ⟨j6, fs6, hj6⟩ := iv6 hv
  obtain ⟨j8, fs8, hj8⟩ := iv8 hv
  refine v_aload_n X dL_law_635 rfl 3 rfl ?_
  refine v_aload_n X dL_law_636 rfl 4 rfl ?_
  refine v_iload X dL_law_637 0 rfl ?_
  refine v_iconst X dL_law_639 (v := nI 1) (by decide) ?_
  refine v_iadd X dL_law_640 ?_
  refine v_eqi (x' := nI (i + 1)) (nI_add _ _) ?_
  refine v_sld X S dL_law_641 (j := (i + 1)) (by omega) (by omega) ?_
  obtain ⟨P6, P8, h6, h8, hr6, hcm⟩ := op_must l E x k (xs (i + 1)) w6 w8 hv
  refine v_nwP X (rn_V X k_X6_must ml_L_66 dL_law_642 h6 rfl j6 hj6 kcX6.1 (by decide) (by decide) (by omega) (by omega) (Nat.le_of_ble_eq_true rfl)) (wr := w8 ++ [aL E oa 1 of_]) rfl (fun r w hp => ?_)
  obtain ⟨v, rfl⟩ := hr6 r w hp
  refine V.cast (st' := [.int v]) (ws' := w8 ++ ([aL E oa 1 of_] ++ w)) rfl rfl (List.append_assoc _ _ _) ?_
  refine v_aload_n X dL_law_645 rfl 2 rfl ?_
  refine v_aload_n X dL_law_646 rfl 4 rfl ?_
  refine v_iload X dL_law_647 0 rfl ?_
  refine v_iconst X dL_law_649 (v := nI 1) (by decide) ?_
  refine v_iadd X dL_law_650 ?_
  refine v_eqi (x' := nI (i + 1)) (nI_add _ _) ?_
  refine v_sld X S dL_law_651 (j := (i + 1)) (by omega) (by omega) ?_
  refine v_nwP X (rn_V X k_X8_must ml_L_69 dL_law_652 h8 rfl j8 hj8 kcX8.1 (by decide) (by decide) (by omega) (by omega) (Nat.le_of_ble_eq_true rfl)) (wr := [aL E oa 1 of_] ++ w) rfl (fun r8 w9 hp8 => ?_)
  obtain ⟨er, hI⟩ := hcm _ _ _ _ hp hp8
  subst er
  refine V.cast (st' := [.int v, .int v]) (ws' := ([aL E oa 1 of_] ++ w) ++ w9) rfl rfl rfl ?_
  refine v_icmp_eq X dL_law_655 (tgt := 1906) (by decide) (fun _ => ?_) (fun h9 => absurd rfl h9)
  refine V_perm (pmz _ _ _) ?_
  exact V_wid (by omega) (by omega) (ih w w9 of_ hI)
set_option maxRecDepth 100000 in
set_option maxHeartbeats 2000000 in
theorem cs_idlest (l : Launch) (E : Et) (Z : Zt) (b L oa x k i kc ns_ : Nat) (xs : Nat → Int32) (of_ : Nat → Int64) (w6 w8 : va_W) (X : Cx E l 40 601024 7293034 Z cL_law 7 yL_law (some .boolean)) (S : SC Z b L xs) (hL : L ≤ 3072) (hi : i + 6 ≤ L) (hk : kc + 20 ≤ 601024) (hn : ns_ + 200 ≤ 7293034) (hv : INV E x k w6 w8) (ih : ∀ (v6 v8 : va_W) (o9 : Nat → Int64), INV E x k v6 v8 → V E Z 1906 [(4, .int (nI i)), (3, .ref oa), (2, .ref k), (1, .ref x), (0, .ref b)] [] (v6 ++ (v8 ++ [aL E oa 1 o9])) (kc + 20) (ns_ + 200)) : V E Z 660 [(4, .int (nI i)), (3, .ref oa), (2, .ref k), (1, .ref x), (0, .ref b)] [] (w6 ++ (w8 ++ [aL E oa 1 of_])) kc ns_ := by
  obtain ⟨j6, fs6, hj6⟩ := iv6 hv
  obtain ⟨j8, fs8, hj8⟩ := iv8 hv
  refine v_aload_n X dL_law_660 rfl 3 rfl ?_
  refine v_aload_n X dL_law_661 rfl 4 rfl ?_
  refine v_iload X dL_law_662 0 rfl ?_
  refine v_iconst X dL_law_664 (v := nI 1) (by decide) ?_
  refine v_iadd X dL_law_665 ?_
  refine v_eqi (x' := nI (i + 1)) (nI_add _ _) ?_
  refine v_sld X S dL_law_666 (j := (i + 1)) (by omega) (by omega) ?_
  obtain ⟨P6, P8, h6, h8, hr6, hcm⟩ := op_idlest l E x k (xs (i + 1)) w6 w8 hv
  refine v_nwP X (rn_V X k_X6_idlest ml_L_70 dL_law_667 h6 rfl j6 hj6 kcX6.1 (by decide) (by decide) (by omega) (by omega) (Nat.le_of_ble_eq_true rfl)) (wr := w8 ++ [aL E oa 1 of_]) rfl (fun r w hp => ?_)
  obtain ⟨v, rfl⟩ := hr6 r w hp
  refine V.cast (st' := [.int v]) (ws' := w8 ++ ([aL E oa 1 of_] ++ w)) rfl rfl (List.append_assoc _ _ _) ?_
  refine v_aload_n X dL_law_670 rfl 2 rfl ?_
  refine v_aload_n X dL_law_671 rfl 4 rfl ?_
  refine v_iload X dL_law_672 0 rfl ?_
  refine v_iconst X dL_law_674 (v := nI 1) (by decide) ?_
  refine v_iadd X dL_law_675 ?_
  refine v_eqi (x' := nI (i + 1)) (nI_add _ _) ?_
  refine v_sld X S dL_law_676 (j := (i + 1)) (by omega) (by omega) ?_
  refine v_nwP X (rn_V X k_X8_idlest ml_L_73 dL_law_677 h8 rfl j8 hj8 kcX8.1 (by decide) (by decide) (by omega) (by omega) (Nat.le_of_ble_eq_true rfl)) (wr := [aL E oa 1 of_] ++ w) rfl (fun r8 w9 hp8 => ?_)
  obtain ⟨er, hI⟩ := hcm _ _ _ _ hp hp8
  subst er
  refine V.cast (st' := [.int v, .int v]) (ws' := ([aL E oa 1 of_] ++ w) ++ w9) rfl rfl rfl ?_
  refine v_icmp_eq X dL_law_680 (tgt := 1906) (by decide) (fun _ => ?_) (fun h9 => absurd rfl h9)
  refine V_perm (pmz _ _ _) ?_
  exact V_wid (by omega) (by omega) (ih w w9 of_ hI)
set_option maxRecDepth 100000 in
set_option maxHeartbeats 2000000 in
theorem cs_stuck (l : Launch) (E : Et) (Z : Zt) (b L oa x k i kc ns_ : Nat) (xs : Nat → Int32) (of_ : Nat → Int64) (w6 w8 : va_W) (X : Cx E l 40 601024 7293034 Z cL_law 7 yL_law (some .boolean)) (S : SC Z b L xs) (hL : L ≤ 3072) (hi : i + 6 ≤ L) (hk : kc + 20 ≤ 601024) (hn : ns_ + 200 ≤ 7293034) (hv : INV E x k w6 w8) (ih : ∀ (v6 v8 : va_W) (o9 : Nat → Int64), INV E x k v6 v8 → V E Z 1906 [(4, .int (nI i)), (3, .ref oa), (2, .ref k), (1, .ref x), (0, .ref b)] [] (v6 ++ (v8 ++ [aL E oa 1 o9])) (kc + 20) (ns_ + 200)) : V E Z 685 [(4, .int (nI i)), (3, .ref oa), (2, .ref k), (1, .ref x), (0, .ref b)] [] (w6 ++ (w8 ++ [aL E oa 1 of_])) kc ns_ := by
  obtain ⟨j6, fs6, hj6⟩ := iv6 hv
  obtain ⟨j8, fs8, hj8⟩ := iv8 hv
  refine v_aload_n X dL_law_685 rfl 3 rfl ?_
  obtain ⟨P6, P8, h6, h8, hr6, hcm⟩ := op_stuck l E x k  w6 w8 hv
  refine v_nwP X (rn_V X k_X6_stuck ml_L_74 dL_law_686 h6 rfl j6 hj6 kcX6.1 (by decide) (by decide) (by omega) (by omega) (Nat.le_of_ble_eq_true rfl)) (wr := w8 ++ [aL E oa 1 of_]) rfl (fun r w hp => ?_)
  obtain ⟨v, rfl⟩ := hr6 r w hp
  refine V.cast (st' := [.int v]) (ws' := w8 ++ ([aL E oa 1 of_] ++ w)) rfl rfl (List.append_assoc _ _ _) ?_
  refine v_aload_n X dL_law_689 rfl 2 rfl ?_
  refine v_nwP X (rn_V X k_X8_stuck ml_L_77 dL_law_690 h8 rfl j8 hj8 kcX8.1 (by decide) (by decide) (by omega) (by omega) (Nat.le_of_ble_eq_true rfl)) (wr := [aL E oa 1 of_] ++ w) rfl (fun r8 w9 hp8 => ?_)
  obtain ⟨er, hI⟩ := hcm _ _ _ _ hp hp8
  subst er
  refine V.cast (st' := [.int v, .int v]) (ws' := ([aL E oa 1 of_] ++ w) ++ w9) rfl rfl rfl ?_
  refine v_icmp_eq X dL_law_693 (tgt := 1906) (by decide) (fun _ => ?_) (fun h9 => absurd rfl h9)
  refine V_perm (pmz _ _ _) ?_
  exact V_wid (by omega) (by omega) (ih w w9 of_ hI)
set_option maxRecDepth 100000 in
set_option maxHeartbeats 2000000 in
theorem cs_mostBound (l : Launch) (E : Et) (Z : Zt) (b L oa x k i kc ns_ : Nat) (xs : Nat → Int32) (of_ : Nat → Int64) (w6 w8 : va_W) (X : Cx E l 40 601024 7293034 Z cL_law 7 yL_law (some .boolean)) (S : SC Z b L xs) (hL : L ≤ 3072) (hi : i + 6 ≤ L) (hk : kc + 20 ≤ 601024) (hn : ns_ + 200 ≤ 7293034) (hv : INV E x k w6 w8) (ih : ∀ (v6 v8 : va_W) (o9 : Nat → Int64), INV E x k v6 v8 → V E Z 1906 [(4, .int (nI i)), (3, .ref oa), (2, .ref k), (1, .ref x), (0, .ref b)] [] (v6 ++ (v8 ++ [aL E oa 1 o9])) (kc + 20) (ns_ + 200)) : V E Z 698 [(4, .int (nI i)), (3, .ref oa), (2, .ref k), (1, .ref x), (0, .ref b)] [] (w6 ++ (w8 ++ [aL E oa 1 of_])) kc ns_ := by
  obtain ⟨j6, fs6, hj6⟩ := iv6 hv
  obtain ⟨j8, fs8, hj8⟩ := iv8 hv
  refine v_aload_n X dL_law_698 rfl 3 rfl ?_
  obtain ⟨P6, P8, h6, h8, hr6, hcm⟩ := op_mostBound l E x k  w6 w8 hv
  refine v_nwP X (rn_V X k_X6_mostBound ml_L_78 dL_law_699 h6 rfl j6 hj6 kcX6.1 (by decide) (by decide) (by omega) (by omega) (Nat.le_of_ble_eq_true rfl)) (wr := w8 ++ [aL E oa 1 of_]) rfl (fun r w hp => ?_)
  obtain ⟨v, rfl⟩ := hr6 r w hp
  refine V.cast (st' := [.int v]) (ws' := w8 ++ ([aL E oa 1 of_] ++ w)) rfl rfl (List.append_assoc _ _ _) ?_
  refine v_aload_n X dL_law_702 rfl 2 rfl ?_
  refine v_nwP X (rn_V X k_X8_mostBound ml_L_81 dL_law_703 h8 rfl j8 hj8 kcX8.1 (by decide) (by decide) (by omega) (by omega) (Nat.le_of_ble_eq_true rfl)) (wr := [aL E oa 1 of_] ++ w) rfl (fun r8 w9 hp8 => ?_)
  obtain ⟨er, hI⟩ := hcm _ _ _ _ hp hp8
  subst er
  refine V.cast (st' := [.int v, .int v]) (ws' := ([aL E oa 1 of_] ++ w) ++ w9) rfl rfl rfl ?_
  refine v_icmp_eq X dL_law_706 (tgt := 1906) (by decide) (fun _ => ?_) (fun h9 => absurd rfl h9)
  refine V_perm (pmz _ _ _) ?_
  exact V_wid (by omega) (by omega) (ih w w9 of_ hI)
set_option maxRecDepth 100000 in
set_option maxHeartbeats 2000000 in
theorem cs_bar (l : Launch) (E : Et) (Z : Zt) (b L oa x k i kc ns_ : Nat) (xs : Nat → Int32) (of_ : Nat → Int64) (w6 w8 : va_W) (X : Cx E l 40 601024 7293034 Z cL_law 7 yL_law (some .boolean)) (S : SC Z b L xs) (hL : L ≤ 3072) (hi : i + 6 ≤ L) (hk : kc + 20 ≤ 601024) (hn : ns_ + 200 ≤ 7293034) (hv : INV E x k w6 w8) (ih : ∀ (v6 v8 : va_W) (o9 : Nat → Int64), INV E x k v6 v8 → V E Z 1906 [(4, .int (nI i)), (3, .ref oa), (2, .ref k), (1, .ref x), (0, .ref b)] [] (v6 ++ (v8 ++ [aL E oa 1 o9])) (kc + 20) (ns_ + 200)) : V E Z 711 [(4, .int (nI i)), (3, .ref oa), (2, .ref k), (1, .ref x), (0, .ref b)] [] (w6 ++ (w8 ++ [aL E oa 1 of_])) kc ns_ := by
  obtain ⟨j6, fs6, hj6⟩ := iv6 hv
  obtain ⟨j8, fs8, hj8⟩ := iv8 hv
  refine v_aload_n X dL_law_711 rfl 3 rfl ?_
  refine v_aload_n X dL_law_712 rfl 4 rfl ?_
  refine v_iload X dL_law_713 0 rfl ?_
  refine v_iconst X dL_law_715 (v := nI 1) (by decide) ?_
  refine v_iadd X dL_law_716 ?_
  refine v_eqi (x' := nI (i + 1)) (nI_add _ _) ?_
  refine v_sld X S dL_law_717 (j := (i + 1)) (by omega) (by omega) ?_
  obtain ⟨P6, P8, h6, h8, hr6, hcm⟩ := op_bar l E x k (xs (i + 1)) w6 w8 hv
  refine v_nwP X (rn_V X k_X6_bar ml_L_82 dL_law_718 h6 rfl j6 hj6 kcX6.1 (by decide) (by decide) (by omega) (by omega) (Nat.le_of_ble_eq_true rfl)) (wr := w8 ++ [aL E oa 1 of_]) rfl (fun r w hp => ?_)
  obtain ⟨v, rfl⟩ := hr6 r w hp
  refine V.cast (st' := [.int v]) (ws' := w8 ++ ([aL E oa 1 of_] ++ w)) rfl rfl (List.append_assoc _ _ _) ?_
  refine v_aload_n X dL_law_721 rfl 2 rfl ?_
  refine v_aload_n X dL_law_722 rfl 4 rfl ?_
  refine v_iload X dL_law_723 0 rfl ?_
  refine v_iconst X dL_law_725 (v := nI 1) (by decide) ?_
  refine v_iadd X dL_law_726 ?_
  refine v_eqi (x' := nI (i + 1)) (nI_add _ _) ?_
  refine v_sld X S dL_law_727 (j := (i + 1)) (by omega) (by omega) ?_
  refine v_nwP X (rn_V X k_X8_bar ml_L_85 dL_law_728 h8 rfl j8 hj8 kcX8.1 (by decide) (by decide) (by omega) (by omega) (Nat.le_of_ble_eq_true rfl)) (wr := [aL E oa 1 of_] ++ w) rfl (fun r8 w9 hp8 => ?_)
  obtain ⟨er, hI⟩ := hcm _ _ _ _ hp hp8
  subst er
  refine V.cast (st' := [.int v, .int v]) (ws' := ([aL E oa 1 of_] ++ w) ++ w9) rfl rfl rfl ?_
  refine v_icmp_eq X dL_law_731 (tgt := 1906) (by decide) (fun _ => ?_) (fun h9 => absurd rfl h9)
  refine V_perm (pmz _ _ _) ?_
  exact V_wid (by omega) (by omega) (ih w w9 of_ hI)
set_option maxRecDepth 100000 in
set_option maxHeartbeats 2000000 in
theorem cs_free (l : Launch) (E : Et) (Z : Zt) (b L oa x k i kc ns_ : Nat) (xs : Nat → Int32) (of_ : Nat → Int64) (w6 w8 : va_W) (X : Cx E l 40 601024 7293034 Z cL_law 7 yL_law (some .boolean)) (S : SC Z b L xs) (hL : L ≤ 3072) (hi : i + 6 ≤ L) (hk : kc + 20 ≤ 601024) (hn : ns_ + 200 ≤ 7293034) (hv : INV E x k w6 w8) (ih : ∀ (v6 v8 : va_W) (o9 : Nat → Int64), INV E x k v6 v8 → V E Z 1906 [(4, .int (nI i)), (3, .ref oa), (2, .ref k), (1, .ref x), (0, .ref b)] [] (v6 ++ (v8 ++ [aL E oa 1 o9])) (kc + 20) (ns_ + 200)) : V E Z 736 [(4, .int (nI i)), (3, .ref oa), (2, .ref k), (1, .ref x), (0, .ref b)] [] (w6 ++ (w8 ++ [aL E oa 1 of_])) kc ns_ := by
  obtain ⟨j6, fs6, hj6⟩ := iv6 hv
  obtain ⟨j8, fs8, hj8⟩ := iv8 hv
  refine v_aload_n X dL_law_736 rfl 3 rfl ?_
  refine v_aload_n X dL_law_737 rfl 4 rfl ?_
  refine v_iload X dL_law_738 0 rfl ?_
  refine v_iconst X dL_law_740 (v := nI 1) (by decide) ?_
  refine v_iadd X dL_law_741 ?_
  refine v_eqi (x' := nI (i + 1)) (nI_add _ _) ?_
  refine v_sld X S dL_law_742 (j := (i + 1)) (by omega) (by omega) ?_
  obtain ⟨P6, P8, h6, h8, hr6, hcm⟩ := op_free l E x k (xs (i + 1)) w6 w8 hv
  refine v_nwP X (rn_V X k_X6_free ml_L_86 dL_law_743 h6 rfl j6 hj6 kcX6.1 (by decide) (by decide) (by omega) (by omega) (Nat.le_of_ble_eq_true rfl)) (wr := w8 ++ [aL E oa 1 of_]) rfl (fun r w hp => ?_)
  obtain ⟨v, rfl⟩ := hr6 r w hp
  refine V.cast (st' := [.int v]) (ws' := w8 ++ ([aL E oa 1 of_] ++ w)) rfl rfl (List.append_assoc _ _ _) ?_
  refine v_aload_n X dL_law_746 rfl 2 rfl ?_
  refine v_aload_n X dL_law_747 rfl 4 rfl ?_
  refine v_iload X dL_law_748 0 rfl ?_
  refine v_iconst X dL_law_750 (v := nI 1) (by decide) ?_
  refine v_iadd X dL_law_751 ?_
  refine v_eqi (x' := nI (i + 1)) (nI_add _ _) ?_
  refine v_sld X S dL_law_752 (j := (i + 1)) (by omega) (by omega) ?_
  refine v_nwP X (rn_V X k_X8_free ml_L_89 dL_law_753 h8 rfl j8 hj8 kcX8.1 (by decide) (by decide) (by omega) (by omega) (Nat.le_of_ble_eq_true rfl)) (wr := [aL E oa 1 of_] ++ w) rfl (fun r8 w9 hp8 => ?_)
  obtain ⟨er, hI⟩ := hcm _ _ _ _ hp hp8
  subst er
  refine V.cast (st' := [.int v, .int v]) (ws' := ([aL E oa 1 of_] ++ w) ++ w9) rfl rfl rfl ?_
  refine v_icmp_eq X dL_law_756 (tgt := 1906) (by decide) (fun _ => ?_) (fun h9 => absurd rfl h9)
  refine V_perm (pmz _ _ _) ?_
  exact V_wid (by omega) (by omega) (ih w w9 of_ hI)
set_option maxRecDepth 100000 in
set_option maxHeartbeats 2000000 in
theorem cs_cheap (l : Launch) (E : Et) (Z : Zt) (b L oa x k i kc ns_ : Nat) (xs : Nat → Int32) (of_ : Nat → Int64) (w6 w8 : va_W) (X : Cx E l 40 601024 7293034 Z cL_law 7 yL_law (some .boolean)) (S : SC Z b L xs) (hL : L ≤ 3072) (hi : i + 6 ≤ L) (hk : kc + 20 ≤ 601024) (hn : ns_ + 200 ≤ 7293034) (hv : INV E x k w6 w8) (ih : ∀ (v6 v8 : va_W) (o9 : Nat → Int64), INV E x k v6 v8 → V E Z 1906 [(4, .int (nI i)), (3, .ref oa), (2, .ref k), (1, .ref x), (0, .ref b)] [] (v6 ++ (v8 ++ [aL E oa 1 o9])) (kc + 20) (ns_ + 200)) : V E Z 761 [(4, .int (nI i)), (3, .ref oa), (2, .ref k), (1, .ref x), (0, .ref b)] [] (w6 ++ (w8 ++ [aL E oa 1 of_])) kc ns_ := by
  obtain ⟨j6, fs6, hj6⟩ := iv6 hv
  obtain ⟨j8, fs8, hj8⟩ := iv8 hv
  refine v_aload_n X dL_law_761 rfl 3 rfl ?_
  refine v_aload_n X dL_law_762 rfl 4 rfl ?_
  refine v_iload X dL_law_763 0 rfl ?_
  refine v_iconst X dL_law_765 (v := nI 1) (by decide) ?_
  refine v_iadd X dL_law_766 ?_
  refine v_eqi (x' := nI (i + 1)) (nI_add _ _) ?_
  refine v_sld X S dL_law_767 (j := (i + 1)) (by omega) (by omega) ?_
  obtain ⟨P6, P8, h6, h8, hr6, hcm⟩ := op_cheap l E x k (xs (i + 1)) w6 w8 hv
  refine v_nwP X (rn_V X k_X6_cheap ml_L_90 dL_law_768 h6 rfl j6 hj6 kcX6.1 (by decide) (by decide) (by omega) (by omega) (Nat.le_of_ble_eq_true rfl)) (wr := w8 ++ [aL E oa 1 of_]) rfl (fun r w hp => ?_)
  obtain ⟨v, rfl⟩ := hr6 r w hp
  refine V.cast (st' := [.int v]) (ws' := w8 ++ ([aL E oa 1 of_] ++ w)) rfl rfl (List.append_assoc _ _ _) ?_
  refine v_aload_n X dL_law_771 rfl 2 rfl ?_
  refine v_aload_n X dL_law_772 rfl 4 rfl ?_
  refine v_iload X dL_law_773 0 rfl ?_
  refine v_iconst X dL_law_775 (v := nI 1) (by decide) ?_
  refine v_iadd X dL_law_776 ?_
  refine v_eqi (x' := nI (i + 1)) (nI_add _ _) ?_
  refine v_sld X S dL_law_777 (j := (i + 1)) (by omega) (by omega) ?_
  refine v_nwP X (rn_V X k_X8_cheap ml_L_93 dL_law_778 h8 rfl j8 hj8 kcX8.1 (by decide) (by decide) (by omega) (by omega) (Nat.le_of_ble_eq_true rfl)) (wr := [aL E oa 1 of_] ++ w) rfl (fun r8 w9 hp8 => ?_)
  obtain ⟨er, hI⟩ := hcm _ _ _ _ hp hp8
  subst er
  refine V.cast (st' := [.int v, .int v]) (ws' := ([aL E oa 1 of_] ++ w) ++ w9) rfl rfl rfl ?_
  refine v_icmp_eq X dL_law_781 (tgt := 1906) (by decide) (fun _ => ?_) (fun h9 => absurd rfl h9)
  refine V_perm (pmz _ _ _) ?_
  exact V_wid (by omega) (by omega) (ih w w9 of_ hI)
set_option maxRecDepth 100000 in
set_option maxHeartbeats 2000000 in
theorem cs_price (l : Launch) (E : Et) (Z : Zt) (b L oa x k i kc ns_ : Nat) (xs : Nat → Int32) (of_ : Nat → Int64) (w6 w8 : va_W) (X : Cx E l 40 601024 7293034 Z cL_law 7 yL_law (some .boolean)) (S : SC Z b L xs) (hL : L ≤ 3072) (hi : i + 6 ≤ L) (hk : kc + 20 ≤ 601024) (hn : ns_ + 200 ≤ 7293034) (hv : INV E x k w6 w8) (ih : ∀ (v6 v8 : va_W) (o9 : Nat → Int64), INV E x k v6 v8 → V E Z 1906 [(4, .int (nI i)), (3, .ref oa), (2, .ref k), (1, .ref x), (0, .ref b)] [] (v6 ++ (v8 ++ [aL E oa 1 o9])) (kc + 20) (ns_ + 200)) : V E Z 786 [(4, .int (nI i)), (3, .ref oa), (2, .ref k), (1, .ref x), (0, .ref b)] [] (w6 ++ (w8 ++ [aL E oa 1 of_])) kc ns_ := by
  obtain ⟨j6, fs6, hj6⟩ := iv6 hv
  obtain ⟨j8, fs8, hj8⟩ := iv8 hv
  refine v_aload_n X dL_law_786 rfl 3 rfl ?_
  refine v_aload_n X dL_law_787 rfl 4 rfl ?_
  refine v_iload X dL_law_788 0 rfl ?_
  refine v_iconst X dL_law_790 (v := nI 1) (by decide) ?_
  refine v_iadd X dL_law_791 ?_
  refine v_eqi (x' := nI (i + 1)) (nI_add _ _) ?_
  refine v_sld X S dL_law_792 (j := (i + 1)) (by omega) (by omega) ?_
  obtain ⟨P6, P8, h6, h8, hr6, hcm⟩ := op_price l E x k (xs (i + 1)) w6 w8 hv
  refine v_nwP X (rn_V X k_X6_price ml_L_94 dL_law_793 h6 rfl j6 hj6 kcX6.1 (by decide) (by decide) (by omega) (by omega) (Nat.le_of_ble_eq_true rfl)) (wr := w8 ++ [aL E oa 1 of_]) rfl (fun r w hp => ?_)
  obtain ⟨v, rfl⟩ := hr6 r w hp
  refine V.cast (st' := [.int v]) (ws' := w8 ++ ([aL E oa 1 of_] ++ w)) rfl rfl (List.append_assoc _ _ _) ?_
  refine v_aload_n X dL_law_796 rfl 2 rfl ?_
  refine v_aload_n X dL_law_797 rfl 4 rfl ?_
  refine v_iload X dL_law_798 0 rfl ?_
  refine v_iconst X dL_law_800 (v := nI 1) (by decide) ?_
  refine v_iadd X dL_law_801 ?_
  refine v_eqi (x' := nI (i + 1)) (nI_add _ _) ?_
  refine v_sld X S dL_law_802 (j := (i + 1)) (by omega) (by omega) ?_
  refine v_nwP X (rn_V X k_X8_price ml_L_97 dL_law_803 h8 rfl j8 hj8 kcX8.1 (by decide) (by decide) (by omega) (by omega) (Nat.le_of_ble_eq_true rfl)) (wr := [aL E oa 1 of_] ++ w) rfl (fun r8 w9 hp8 => ?_)
  obtain ⟨er, hI⟩ := hcm _ _ _ _ hp hp8
  subst er
  refine V.cast (st' := [.int v, .int v]) (ws' := ([aL E oa 1 of_] ++ w) ++ w9) rfl rfl rfl ?_
  refine v_icmp_eq X dL_law_806 (tgt := 1906) (by decide) (fun _ => ?_) (fun h9 => absurd rfl h9)
  refine V_perm (pmz _ _ _) ?_
  exact V_wid (by omega) (by omega) (ih w w9 of_ hI)
set_option maxRecDepth 100000 in
set_option maxHeartbeats 2000000 in
theorem cs_idle (l : Launch) (E : Et) (Z : Zt) (b L oa x k i kc ns_ : Nat) (xs : Nat → Int32) (of_ : Nat → Int64) (w6 w8 : va_W) (X : Cx E l 40 601024 7293034 Z cL_law 7 yL_law (some .boolean)) (S : SC Z b L xs) (hL : L ≤ 3072) (hi : i + 6 ≤ L) (hk : kc + 20 ≤ 601024) (hn : ns_ + 200 ≤ 7293034) (hv : INV E x k w6 w8) (ih : ∀ (v6 v8 : va_W) (o9 : Nat → Int64), INV E x k v6 v8 → V E Z 1906 [(4, .int (nI i)), (3, .ref oa), (2, .ref k), (1, .ref x), (0, .ref b)] [] (v6 ++ (v8 ++ [aL E oa 1 o9])) (kc + 20) (ns_ + 200)) : V E Z 811 [(4, .int (nI i)), (3, .ref oa), (2, .ref k), (1, .ref x), (0, .ref b)] [] (w6 ++ (w8 ++ [aL E oa 1 of_])) kc ns_ := by
  obtain ⟨j6, fs6, hj6⟩ := iv6 hv
  obtain ⟨j8, fs8, hj8⟩ := iv8 hv
  refine v_aload_n X dL_law_811 rfl 3 rfl ?_
  refine v_aload_n X dL_law_812 rfl 4 rfl ?_
  refine v_iload X dL_law_813 0 rfl ?_
  refine v_iconst X dL_law_815 (v := nI 1) (by decide) ?_
  refine v_iadd X dL_law_816 ?_
  refine v_eqi (x' := nI (i + 1)) (nI_add _ _) ?_
  refine v_sld X S dL_law_817 (j := (i + 1)) (by omega) (by omega) ?_
  obtain ⟨P6, P8, h6, h8, hr6, hcm⟩ := op_idle l E x k (xs (i + 1)) w6 w8 hv
  refine v_nwP X (rn_V X k_X6_idle ml_L_98 dL_law_818 h6 rfl j6 hj6 kcX6.1 (by decide) (by decide) (by omega) (by omega) (Nat.le_of_ble_eq_true rfl)) (wr := w8 ++ [aL E oa 1 of_]) rfl (fun r w hp => ?_)
  obtain ⟨v, rfl⟩ := hr6 r w hp
  refine V.cast (st' := [.int v]) (ws' := w8 ++ ([aL E oa 1 of_] ++ w)) rfl rfl (List.append_assoc _ _ _) ?_
  refine v_aload_n X dL_law_821 rfl 2 rfl ?_
  refine v_aload_n X dL_law_822 rfl 4 rfl ?_
  refine v_iload X dL_law_823 0 rfl ?_
  refine v_iconst X dL_law_825 (v := nI 1) (by decide) ?_
  refine v_iadd X dL_law_826 ?_
  refine v_eqi (x' := nI (i + 1)) (nI_add _ _) ?_
  refine v_sld X S dL_law_827 (j := (i + 1)) (by omega) (by omega) ?_
  refine v_nwP X (rn_V X k_X8_idle ml_L_101 dL_law_828 h8 rfl j8 hj8 kcX8.1 (by decide) (by decide) (by omega) (by omega) (Nat.le_of_ble_eq_true rfl)) (wr := [aL E oa 1 of_] ++ w) rfl (fun r8 w9 hp8 => ?_)
  obtain ⟨er, hI⟩ := hcm _ _ _ _ hp hp8
  subst er
  refine V.cast (st' := [.int v, .int v]) (ws' := ([aL E oa 1 of_] ++ w) ++ w9) rfl rfl rfl ?_
  refine v_icmp_eq X dL_law_831 (tgt := 1906) (by decide) (fun _ => ?_) (fun h9 => absurd rfl h9)
  refine V_perm (pmz _ _ _) ?_
  exact V_wid (by omega) (by omega) (ih w w9 of_ hI)
set_option maxRecDepth 100000 in
set_option maxHeartbeats 2000000 in
theorem cs_heaviest (l : Launch) (E : Et) (Z : Zt) (b L oa x k i kc ns_ : Nat) (xs : Nat → Int32) (of_ : Nat → Int64) (w6 w8 : va_W) (X : Cx E l 40 601024 7293034 Z cL_law 7 yL_law (some .boolean)) (S : SC Z b L xs) (hL : L ≤ 3072) (hi : i + 6 ≤ L) (hk : kc + 20 ≤ 601024) (hn : ns_ + 200 ≤ 7293034) (hv : INV E x k w6 w8) (ih : ∀ (v6 v8 : va_W) (o9 : Nat → Int64), INV E x k v6 v8 → V E Z 1906 [(4, .int (nI i)), (3, .ref oa), (2, .ref k), (1, .ref x), (0, .ref b)] [] (v6 ++ (v8 ++ [aL E oa 1 o9])) (kc + 20) (ns_ + 200)) : V E Z 836 [(4, .int (nI i)), (3, .ref oa), (2, .ref k), (1, .ref x), (0, .ref b)] [] (w6 ++ (w8 ++ [aL E oa 1 of_])) kc ns_ := by
  obtain ⟨j6, fs6, hj6⟩ := iv6 hv
  obtain ⟨j8, fs8, hj8⟩ := iv8 hv
  refine v_aload_n X dL_law_836 rfl 3 rfl ?_
  refine v_aload_n X dL_law_837 rfl 4 rfl ?_
  refine v_iload X dL_law_838 0 rfl ?_
  refine v_iconst X dL_law_840 (v := nI 1) (by decide) ?_
  refine v_iadd X dL_law_841 ?_
  refine v_eqi (x' := nI (i + 1)) (nI_add _ _) ?_
  refine v_sld X S dL_law_842 (j := (i + 1)) (by omega) (by omega) ?_
  obtain ⟨P6, P8, h6, h8, hr6, hcm⟩ := op_heaviest l E x k (xs (i + 1)) w6 w8 hv
  refine v_nwP X (rn_V X k_X6_heaviest ml_L_102 dL_law_843 h6 rfl j6 hj6 kcX6.1 (by decide) (by decide) (by omega) (by omega) (Nat.le_of_ble_eq_true rfl)) (wr := w8 ++ [aL E oa 1 of_]) rfl (fun r w hp => ?_)
  obtain ⟨v, rfl⟩ := hr6 r w hp
  refine V.cast (st' := [.int v]) (ws' := w8 ++ ([aL E oa 1 of_] ++ w)) rfl rfl (List.append_assoc _ _ _) ?_
  refine v_aload_n X dL_law_846 rfl 2 rfl ?_
  refine v_aload_n X dL_law_847 rfl 4 rfl ?_
  refine v_iload X dL_law_848 0 rfl ?_
  refine v_iconst X dL_law_850 (v := nI 1) (by decide) ?_
  refine v_iadd X dL_law_851 ?_
  refine v_eqi (x' := nI (i + 1)) (nI_add _ _) ?_
  refine v_sld X S dL_law_852 (j := (i + 1)) (by omega) (by omega) ?_
  refine v_nwP X (rn_V X k_X8_heaviest ml_L_105 dL_law_853 h8 rfl j8 hj8 kcX8.1 (by decide) (by decide) (by omega) (by omega) (Nat.le_of_ble_eq_true rfl)) (wr := [aL E oa 1 of_] ++ w) rfl (fun r8 w9 hp8 => ?_)
  obtain ⟨er, hI⟩ := hcm _ _ _ _ hp hp8
  subst er
  refine V.cast (st' := [.int v, .int v]) (ws' := ([aL E oa 1 of_] ++ w) ++ w9) rfl rfl rfl ?_
  refine v_icmp_eq X dL_law_856 (tgt := 1906) (by decide) (fun _ => ?_) (fun h9 => absurd rfl h9)
  refine V_perm (pmz _ _ _) ?_
  exact V_wid (by omega) (by omega) (ih w w9 of_ hI)
set_option maxRecDepth 100000 in
set_option maxHeartbeats 2000000 in
theorem cs_feared (l : Launch) (E : Et) (Z : Zt) (b L oa x k i kc ns_ : Nat) (xs : Nat → Int32) (of_ : Nat → Int64) (w6 w8 : va_W) (X : Cx E l 40 601024 7293034 Z cL_law 7 yL_law (some .boolean)) (S : SC Z b L xs) (hL : L ≤ 3072) (hi : i + 6 ≤ L) (hk : kc + 20 ≤ 601024) (hn : ns_ + 200 ≤ 7293034) (hv : INV E x k w6 w8) (ih : ∀ (v6 v8 : va_W) (o9 : Nat → Int64), INV E x k v6 v8 → V E Z 1906 [(4, .int (nI i)), (3, .ref oa), (2, .ref k), (1, .ref x), (0, .ref b)] [] (v6 ++ (v8 ++ [aL E oa 1 o9])) (kc + 20) (ns_ + 200)) : V E Z 861 [(4, .int (nI i)), (3, .ref oa), (2, .ref k), (1, .ref x), (0, .ref b)] [] (w6 ++ (w8 ++ [aL E oa 1 of_])) kc ns_ := by
  obtain ⟨j6, fs6, hj6⟩ := iv6 hv
  obtain ⟨j8, fs8, hj8⟩ := iv8 hv
  refine v_aload_n X dL_law_861 rfl 3 rfl ?_
  refine v_aload_n X dL_law_862 rfl 4 rfl ?_
  refine v_iload X dL_law_863 0 rfl ?_
  refine v_iconst X dL_law_865 (v := nI 1) (by decide) ?_
  refine v_iadd X dL_law_866 ?_
  refine v_eqi (x' := nI (i + 1)) (nI_add _ _) ?_
  refine v_sld X S dL_law_867 (j := (i + 1)) (by omega) (by omega) ?_
  obtain ⟨P6, P8, h6, h8, hr6, hcm⟩ := op_feared l E x k (xs (i + 1)) w6 w8 hv
  refine v_nwP X (rn_V X k_X6_feared ml_L_106 dL_law_868 h6 rfl j6 hj6 kcX6.1 (by decide) (by decide) (by omega) (by omega) (Nat.le_of_ble_eq_true rfl)) (wr := w8 ++ [aL E oa 1 of_]) rfl (fun r w hp => ?_)
  obtain ⟨v, rfl⟩ := hr6 r w hp
  refine V.cast (st' := [.int v]) (ws' := w8 ++ ([aL E oa 1 of_] ++ w)) rfl rfl (List.append_assoc _ _ _) ?_
  refine v_aload_n X dL_law_871 rfl 2 rfl ?_
  refine v_aload_n X dL_law_872 rfl 4 rfl ?_
  refine v_iload X dL_law_873 0 rfl ?_
  refine v_iconst X dL_law_875 (v := nI 1) (by decide) ?_
  refine v_iadd X dL_law_876 ?_
  refine v_eqi (x' := nI (i + 1)) (nI_add _ _) ?_
  refine v_sld X S dL_law_877 (j := (i + 1)) (by omega) (by omega) ?_
  refine v_nwP X (rn_V X k_X8_feared ml_L_109 dL_law_878 h8 rfl j8 hj8 kcX8.1 (by decide) (by decide) (by omega) (by omega) (Nat.le_of_ble_eq_true rfl)) (wr := [aL E oa 1 of_] ++ w) rfl (fun r8 w9 hp8 => ?_)
  obtain ⟨er, hI⟩ := hcm _ _ _ _ hp hp8
  subst er
  refine V.cast (st' := [.int v, .int v]) (ws' := ([aL E oa 1 of_] ++ w) ++ w9) rfl rfl rfl ?_
  refine v_icmp_eq X dL_law_881 (tgt := 1906) (by decide) (fun _ => ?_) (fun h9 => absurd rfl h9)
  refine V_perm (pmz _ _ _) ?_
  exact V_wid (by omega) (by omega) (ih w w9 of_ hI)
set_option maxRecDepth 100000 in
set_option maxHeartbeats 2000000 in
theorem cs_spread (l : Launch) (E : Et) (Z : Zt) (b L oa x k i kc ns_ : Nat) (xs : Nat → Int32) (of_ : Nat → Int64) (w6 w8 : va_W) (X : Cx E l 40 601024 7293034 Z cL_law 7 yL_law (some .boolean)) (S : SC Z b L xs) (hL : L ≤ 3072) (hi : i + 6 ≤ L) (hk : kc + 20 ≤ 601024) (hn : ns_ + 200 ≤ 7293034) (hv : INV E x k w6 w8) (ih : ∀ (v6 v8 : va_W) (o9 : Nat → Int64), INV E x k v6 v8 → V E Z 1906 [(4, .int (nI i)), (3, .ref oa), (2, .ref k), (1, .ref x), (0, .ref b)] [] (v6 ++ (v8 ++ [aL E oa 1 o9])) (kc + 20) (ns_ + 200)) : V E Z 886 [(4, .int (nI i)), (3, .ref oa), (2, .ref k), (1, .ref x), (0, .ref b)] [] (w6 ++ (w8 ++ [aL E oa 1 of_])) kc ns_ := by
  obtain ⟨j6, fs6, hj6⟩ := iv6 hv
  obtain ⟨j8, fs8, hj8⟩ := iv8 hv
  refine v_aload_n X dL_law_886 rfl 3 rfl ?_
  obtain ⟨P6, P8, h6, h8, hr6, hcm⟩ := op_spread l E x k  w6 w8 hv
  refine v_nwP X (rn_V X k_X6_spread ml_L_110 dL_law_887 h6 rfl j6 hj6 kcX6.1 (by decide) (by decide) (by omega) (by omega) (Nat.le_of_ble_eq_true rfl)) (wr := w8 ++ [aL E oa 1 of_]) rfl (fun r w hp => ?_)
  obtain ⟨v, rfl⟩ := hr6 r w hp
  refine V.cast (st' := [.int v]) (ws' := w8 ++ ([aL E oa 1 of_] ++ w)) rfl rfl (List.append_assoc _ _ _) ?_
  refine v_aload_n X dL_law_890 rfl 2 rfl ?_
  refine v_nwP X (rn_V X k_X8_spread ml_L_113 dL_law_891 h8 rfl j8 hj8 kcX8.1 (by decide) (by decide) (by omega) (by omega) (Nat.le_of_ble_eq_true rfl)) (wr := [aL E oa 1 of_] ++ w) rfl (fun r8 w9 hp8 => ?_)
  obtain ⟨er, hI⟩ := hcm _ _ _ _ hp hp8
  subst er
  refine V.cast (st' := [.int v, .int v]) (ws' := ([aL E oa 1 of_] ++ w) ++ w9) rfl rfl rfl ?_
  refine v_icmp_eq X dL_law_894 (tgt := 1906) (by decide) (fun _ => ?_) (fun h9 => absurd rfl h9)
  refine V_perm (pmz _ _ _) ?_
  exact V_wid (by omega) (by omega) (ih w w9 of_ hI)
set_option maxRecDepth 100000 in
set_option maxHeartbeats 2000000 in
theorem cs_spreadAt (l : Launch) (E : Et) (Z : Zt) (b L oa x k i kc ns_ : Nat) (xs : Nat → Int32) (of_ : Nat → Int64) (w6 w8 : va_W) (X : Cx E l 40 601024 7293034 Z cL_law 7 yL_law (some .boolean)) (S : SC Z b L xs) (hL : L ≤ 3072) (hi : i + 6 ≤ L) (hk : kc + 20 ≤ 601024) (hn : ns_ + 200 ≤ 7293034) (hv : INV E x k w6 w8) (ih : ∀ (v6 v8 : va_W) (o9 : Nat → Int64), INV E x k v6 v8 → V E Z 1906 [(4, .int (nI i)), (3, .ref oa), (2, .ref k), (1, .ref x), (0, .ref b)] [] (v6 ++ (v8 ++ [aL E oa 1 o9])) (kc + 20) (ns_ + 200)) : V E Z 899 [(4, .int (nI i)), (3, .ref oa), (2, .ref k), (1, .ref x), (0, .ref b)] [] (w6 ++ (w8 ++ [aL E oa 1 of_])) kc ns_ := by
  obtain ⟨j6, fs6, hj6⟩ := iv6 hv
  obtain ⟨j8, fs8, hj8⟩ := iv8 hv
  refine v_aload_n X dL_law_899 rfl 3 rfl ?_
  refine v_aload_n X dL_law_900 rfl 4 rfl ?_
  refine v_iload X dL_law_901 0 rfl ?_
  refine v_iconst X dL_law_903 (v := nI 1) (by decide) ?_
  refine v_iadd X dL_law_904 ?_
  refine v_eqi (x' := nI (i + 1)) (nI_add _ _) ?_
  refine v_sld X S dL_law_905 (j := (i + 1)) (by omega) (by omega) ?_
  obtain ⟨P6, P8, h6, h8, hr6, hcm⟩ := op_spreadAt l E x k (xs (i + 1)) w6 w8 hv
  refine v_nwP X (rn_V X k_X6_spreadAt ml_L_114 dL_law_906 h6 rfl j6 hj6 kcX6.1 (by decide) (by decide) (by omega) (by omega) (Nat.le_of_ble_eq_true rfl)) (wr := w8 ++ [aL E oa 1 of_]) rfl (fun r w hp => ?_)
  obtain ⟨v, rfl⟩ := hr6 r w hp
  refine V.cast (st' := [.int v]) (ws' := w8 ++ ([aL E oa 1 of_] ++ w)) rfl rfl (List.append_assoc _ _ _) ?_
  refine v_aload_n X dL_law_909 rfl 2 rfl ?_
  refine v_aload_n X dL_law_910 rfl 4 rfl ?_
  refine v_iload X dL_law_911 0 rfl ?_
  refine v_iconst X dL_law_913 (v := nI 1) (by decide) ?_
  refine v_iadd X dL_law_914 ?_
  refine v_eqi (x' := nI (i + 1)) (nI_add _ _) ?_
  refine v_sld X S dL_law_915 (j := (i + 1)) (by omega) (by omega) ?_
  refine v_nwP X (rn_V X k_X8_spreadAt ml_L_117 dL_law_916 h8 rfl j8 hj8 kcX8.1 (by decide) (by decide) (by omega) (by omega) (Nat.le_of_ble_eq_true rfl)) (wr := [aL E oa 1 of_] ++ w) rfl (fun r8 w9 hp8 => ?_)
  obtain ⟨er, hI⟩ := hcm _ _ _ _ hp hp8
  subst er
  refine V.cast (st' := [.int v, .int v]) (ws' := ([aL E oa 1 of_] ++ w) ++ w9) rfl rfl rfl ?_
  refine v_icmp_eq X dL_law_919 (tgt := 1906) (by decide) (fun _ => ?_) (fun h9 => absurd rfl h9)
  refine V_perm (pmz _ _ _) ?_
  exact V_wid (by omega) (by omega) (ih w w9 of_ hI)
set_option maxRecDepth 100000 in
set_option maxHeartbeats 2000000 in
theorem cs_together (l : Launch) (E : Et) (Z : Zt) (b L oa x k i kc ns_ : Nat) (xs : Nat → Int32) (of_ : Nat → Int64) (w6 w8 : va_W) (X : Cx E l 40 601024 7293034 Z cL_law 7 yL_law (some .boolean)) (S : SC Z b L xs) (hL : L ≤ 3072) (hi : i + 6 ≤ L) (hk : kc + 20 ≤ 601024) (hn : ns_ + 200 ≤ 7293034) (hv : INV E x k w6 w8) (ih : ∀ (v6 v8 : va_W) (o9 : Nat → Int64), INV E x k v6 v8 → V E Z 1906 [(4, .int (nI i)), (3, .ref oa), (2, .ref k), (1, .ref x), (0, .ref b)] [] (v6 ++ (v8 ++ [aL E oa 1 o9])) (kc + 20) (ns_ + 200)) : V E Z 924 [(4, .int (nI i)), (3, .ref oa), (2, .ref k), (1, .ref x), (0, .ref b)] [] (w6 ++ (w8 ++ [aL E oa 1 of_])) kc ns_ := by
  obtain ⟨j6, fs6, hj6⟩ := iv6 hv
  obtain ⟨j8, fs8, hj8⟩ := iv8 hv
  refine v_aload_n X dL_law_924 rfl 3 rfl ?_
  obtain ⟨P6, P8, h6, h8, hr6, hcm⟩ := op_together l E x k  w6 w8 hv
  refine v_nwP X (rn_V X k_X6_together ml_L_118 dL_law_925 h6 rfl j6 hj6 kcX6.1 (by decide) (by decide) (by omega) (by omega) (Nat.le_of_ble_eq_true rfl)) (wr := w8 ++ [aL E oa 1 of_]) rfl (fun r w hp => ?_)
  obtain ⟨v, rfl⟩ := hr6 r w hp
  refine V.cast (st' := [.int v]) (ws' := w8 ++ ([aL E oa 1 of_] ++ w)) rfl rfl (List.append_assoc _ _ _) ?_
  refine v_aload_n X dL_law_928 rfl 2 rfl ?_
  refine v_nwP X (rn_V X k_X8_together ml_L_121 dL_law_929 h8 rfl j8 hj8 kcX8.1 (by decide) (by decide) (by omega) (by omega) (Nat.le_of_ble_eq_true rfl)) (wr := [aL E oa 1 of_] ++ w) rfl (fun r8 w9 hp8 => ?_)
  obtain ⟨er, hI⟩ := hcm _ _ _ _ hp hp8
  subst er
  refine V.cast (st' := [.int v, .int v]) (ws' := ([aL E oa 1 of_] ++ w) ++ w9) rfl rfl rfl ?_
  refine v_icmp_eq X dL_law_932 (tgt := 1906) (by decide) (fun _ => ?_) (fun h9 => absurd rfl h9)
  refine V_perm (pmz _ _ _) ?_
  exact V_wid (by omega) (by omega) (ih w w9 of_ hI)
set_option maxRecDepth 100000 in
set_option maxHeartbeats 2000000 in
theorem cs_ink (l : Launch) (E : Et) (Z : Zt) (b L oa x k i kc ns_ : Nat) (xs : Nat → Int32) (of_ : Nat → Int64) (w6 w8 : va_W) (X : Cx E l 40 601024 7293034 Z cL_law 7 yL_law (some .boolean)) (S : SC Z b L xs) (hL : L ≤ 3072) (hi : i + 6 ≤ L) (hk : kc + 20 ≤ 601024) (hn : ns_ + 200 ≤ 7293034) (hv : INV E x k w6 w8) (ih : ∀ (v6 v8 : va_W) (o9 : Nat → Int64), INV E x k v6 v8 → V E Z 1906 [(4, .int (nI i)), (3, .ref oa), (2, .ref k), (1, .ref x), (0, .ref b)] [] (v6 ++ (v8 ++ [aL E oa 1 o9])) (kc + 20) (ns_ + 200)) : V E Z 937 [(4, .int (nI i)), (3, .ref oa), (2, .ref k), (1, .ref x), (0, .ref b)] [] (w6 ++ (w8 ++ [aL E oa 1 of_])) kc ns_ := by
  obtain ⟨j6, fs6, hj6⟩ := iv6 hv
  obtain ⟨j8, fs8, hj8⟩ := iv8 hv
  refine v_aload_n X dL_law_937 rfl 3 rfl ?_
  refine v_aload_n X dL_law_938 rfl 4 rfl ?_
  refine v_iload X dL_law_939 0 rfl ?_
  refine v_iconst X dL_law_941 (v := nI 1) (by decide) ?_
  refine v_iadd X dL_law_942 ?_
  refine v_eqi (x' := nI (i + 1)) (nI_add _ _) ?_
  refine v_sld X S dL_law_943 (j := (i + 1)) (by omega) (by omega) ?_
  refine v_aload_n X dL_law_944 rfl 4 rfl ?_
  refine v_iload X dL_law_945 0 rfl ?_
  refine v_iconst X dL_law_947 (v := nI 2) (by decide) ?_
  refine v_iadd X dL_law_948 ?_
  refine v_eqi (x' := nI (i + 2)) (nI_add _ _) ?_
  refine v_sld X S dL_law_949 (j := (i + 2)) (by omega) (by omega) ?_
  obtain ⟨P6, P8, h6, h8, hr6, hcm⟩ := op_ink l E x k (xs (i + 1)) (xs (i + 2)) w6 w8 hv
  refine v_nwP X (rn_V X k_X6_ink ml_L_122 dL_law_950 h6 rfl j6 hj6 kcX6.1 (by decide) (by decide) (by omega) (by omega) (Nat.le_of_ble_eq_true rfl)) (wr := w8 ++ [aL E oa 1 of_]) rfl (fun r w hp => ?_)
  obtain ⟨v, rfl⟩ := hr6 r w hp
  refine V.cast (st' := [.int v]) (ws' := w8 ++ ([aL E oa 1 of_] ++ w)) rfl rfl (List.append_assoc _ _ _) ?_
  refine v_aload_n X dL_law_953 rfl 2 rfl ?_
  refine v_aload_n X dL_law_954 rfl 4 rfl ?_
  refine v_iload X dL_law_955 0 rfl ?_
  refine v_iconst X dL_law_957 (v := nI 1) (by decide) ?_
  refine v_iadd X dL_law_958 ?_
  refine v_eqi (x' := nI (i + 1)) (nI_add _ _) ?_
  refine v_sld X S dL_law_959 (j := (i + 1)) (by omega) (by omega) ?_
  refine v_aload_n X dL_law_960 rfl 4 rfl ?_
  refine v_iload X dL_law_961 0 rfl ?_
  refine v_iconst X dL_law_963 (v := nI 2) (by decide) ?_
  refine v_iadd X dL_law_964 ?_
  refine v_eqi (x' := nI (i + 2)) (nI_add _ _) ?_
  refine v_sld X S dL_law_965 (j := (i + 2)) (by omega) (by omega) ?_
  refine v_nwP X (rn_V X k_X8_ink ml_L_125 dL_law_966 h8 rfl j8 hj8 kcX8.1 (by decide) (by decide) (by omega) (by omega) (Nat.le_of_ble_eq_true rfl)) (wr := [aL E oa 1 of_] ++ w) rfl (fun r8 w9 hp8 => ?_)
  obtain ⟨er, hI⟩ := hcm _ _ _ _ hp hp8
  subst er
  refine V.cast (st' := [.int v, .int v]) (ws' := ([aL E oa 1 of_] ++ w) ++ w9) rfl rfl rfl ?_
  refine v_icmp_eq X dL_law_969 (tgt := 1906) (by decide) (fun _ => ?_) (fun h9 => absurd rfl h9)
  refine V_perm (pmz _ _ _) ?_
  exact V_wid (by omega) (by omega) (ih w w9 of_ hI)
set_option maxRecDepth 100000 in
set_option maxHeartbeats 2000000 in
theorem cs_waysIn (l : Launch) (E : Et) (Z : Zt) (b L oa x k i kc ns_ : Nat) (xs : Nat → Int32) (of_ : Nat → Int64) (w6 w8 : va_W) (X : Cx E l 40 601024 7293034 Z cL_law 7 yL_law (some .boolean)) (S : SC Z b L xs) (hL : L ≤ 3072) (hi : i + 6 ≤ L) (hk : kc + 20 ≤ 601024) (hn : ns_ + 200 ≤ 7293034) (hv : INV E x k w6 w8) (ih : ∀ (v6 v8 : va_W) (o9 : Nat → Int64), INV E x k v6 v8 → V E Z 1906 [(4, .int (nI i)), (3, .ref oa), (2, .ref k), (1, .ref x), (0, .ref b)] [] (v6 ++ (v8 ++ [aL E oa 1 o9])) (kc + 20) (ns_ + 200)) : V E Z 974 [(4, .int (nI i)), (3, .ref oa), (2, .ref k), (1, .ref x), (0, .ref b)] [] (w6 ++ (w8 ++ [aL E oa 1 of_])) kc ns_ := by
  obtain ⟨j6, fs6, hj6⟩ := iv6 hv
  obtain ⟨j8, fs8, hj8⟩ := iv8 hv
  refine v_aload_n X dL_law_974 rfl 3 rfl ?_
  refine v_aload_n X dL_law_975 rfl 4 rfl ?_
  refine v_iload X dL_law_976 0 rfl ?_
  refine v_iconst X dL_law_978 (v := nI 1) (by decide) ?_
  refine v_iadd X dL_law_979 ?_
  refine v_eqi (x' := nI (i + 1)) (nI_add _ _) ?_
  refine v_sld X S dL_law_980 (j := (i + 1)) (by omega) (by omega) ?_
  refine v_aload_n X dL_law_981 rfl 4 rfl ?_
  refine v_iload X dL_law_982 0 rfl ?_
  refine v_iconst X dL_law_984 (v := nI 2) (by decide) ?_
  refine v_iadd X dL_law_985 ?_
  refine v_eqi (x' := nI (i + 2)) (nI_add _ _) ?_
  refine v_sld X S dL_law_986 (j := (i + 2)) (by omega) (by omega) ?_
  obtain ⟨P6, P8, h6, h8, hr6, hcm⟩ := op_waysIn l E x k (xs (i + 1)) (xs (i + 2)) w6 w8 hv
  refine v_nwP X (rn_V X k_X6_waysIn ml_L_126 dL_law_987 h6 rfl j6 hj6 kcX6.1 (by decide) (by decide) (by omega) (by omega) (Nat.le_of_ble_eq_true rfl)) (wr := w8 ++ [aL E oa 1 of_]) rfl (fun r w hp => ?_)
  obtain ⟨v, rfl⟩ := hr6 r w hp
  refine V.cast (st' := [.int v]) (ws' := w8 ++ ([aL E oa 1 of_] ++ w)) rfl rfl (List.append_assoc _ _ _) ?_
  refine v_aload_n X dL_law_990 rfl 2 rfl ?_
  refine v_aload_n X dL_law_991 rfl 4 rfl ?_
  refine v_iload X dL_law_992 0 rfl ?_
  refine v_iconst X dL_law_994 (v := nI 1) (by decide) ?_
  refine v_iadd X dL_law_995 ?_
  refine v_eqi (x' := nI (i + 1)) (nI_add _ _) ?_
  refine v_sld X S dL_law_996 (j := (i + 1)) (by omega) (by omega) ?_
  refine v_aload_n X dL_law_997 rfl 4 rfl ?_
  refine v_iload X dL_law_998 0 rfl ?_
  refine v_iconst X dL_law_1000 (v := nI 2) (by decide) ?_
  refine v_iadd X dL_law_1001 ?_
  refine v_eqi (x' := nI (i + 2)) (nI_add _ _) ?_
  refine v_sld X S dL_law_1002 (j := (i + 2)) (by omega) (by omega) ?_
  refine v_nwP X (rn_V X k_X8_waysIn ml_L_129 dL_law_1003 h8 rfl j8 hj8 kcX8.1 (by decide) (by decide) (by omega) (by omega) (Nat.le_of_ble_eq_true rfl)) (wr := [aL E oa 1 of_] ++ w) rfl (fun r8 w9 hp8 => ?_)
  obtain ⟨er, hI⟩ := hcm _ _ _ _ hp hp8
  subst er
  refine V.cast (st' := [.int v, .int v]) (ws' := ([aL E oa 1 of_] ++ w) ++ w9) rfl rfl rfl ?_
  refine v_icmp_eq X dL_law_1006 (tgt := 1906) (by decide) (fun _ => ?_) (fun h9 => absurd rfl h9)
  refine V_perm (pmz _ _ _) ?_
  exact V_wid (by omega) (by omega) (ih w w9 of_ hI)
set_option maxRecDepth 100000 in
set_option maxHeartbeats 2000000 in
theorem cs_freeIn (l : Launch) (E : Et) (Z : Zt) (b L oa x k i kc ns_ : Nat) (xs : Nat → Int32) (of_ : Nat → Int64) (w6 w8 : va_W) (X : Cx E l 40 601024 7293034 Z cL_law 7 yL_law (some .boolean)) (S : SC Z b L xs) (hL : L ≤ 3072) (hi : i + 6 ≤ L) (hk : kc + 20 ≤ 601024) (hn : ns_ + 200 ≤ 7293034) (hv : INV E x k w6 w8) (ih : ∀ (v6 v8 : va_W) (o9 : Nat → Int64), INV E x k v6 v8 → V E Z 1906 [(4, .int (nI i)), (3, .ref oa), (2, .ref k), (1, .ref x), (0, .ref b)] [] (v6 ++ (v8 ++ [aL E oa 1 o9])) (kc + 20) (ns_ + 200)) : V E Z 1011 [(4, .int (nI i)), (3, .ref oa), (2, .ref k), (1, .ref x), (0, .ref b)] [] (w6 ++ (w8 ++ [aL E oa 1 of_])) kc ns_ := by
  obtain ⟨j6, fs6, hj6⟩ := iv6 hv
  obtain ⟨j8, fs8, hj8⟩ := iv8 hv
  refine v_aload_n X dL_law_1011 rfl 3 rfl ?_
  refine v_aload_n X dL_law_1012 rfl 4 rfl ?_
  refine v_iload X dL_law_1013 0 rfl ?_
  refine v_iconst X dL_law_1015 (v := nI 1) (by decide) ?_
  refine v_iadd X dL_law_1016 ?_
  refine v_eqi (x' := nI (i + 1)) (nI_add _ _) ?_
  refine v_sld X S dL_law_1017 (j := (i + 1)) (by omega) (by omega) ?_
  obtain ⟨P6, P8, h6, h8, hr6, hcm⟩ := op_freeIn l E x k (xs (i + 1)) w6 w8 hv
  refine v_nwP X (rn_V X k_X6_freeIn ml_L_130 dL_law_1018 h6 rfl j6 hj6 kcX6.1 (by decide) (by decide) (by omega) (by omega) (Nat.le_of_ble_eq_true rfl)) (wr := w8 ++ [aL E oa 1 of_]) rfl (fun r w hp => ?_)
  obtain ⟨v, rfl⟩ := hr6 r w hp
  refine V.cast (st' := [.int v]) (ws' := w8 ++ ([aL E oa 1 of_] ++ w)) rfl rfl (List.append_assoc _ _ _) ?_
  refine v_aload_n X dL_law_1021 rfl 2 rfl ?_
  refine v_aload_n X dL_law_1022 rfl 4 rfl ?_
  refine v_iload X dL_law_1023 0 rfl ?_
  refine v_iconst X dL_law_1025 (v := nI 1) (by decide) ?_
  refine v_iadd X dL_law_1026 ?_
  refine v_eqi (x' := nI (i + 1)) (nI_add _ _) ?_
  refine v_sld X S dL_law_1027 (j := (i + 1)) (by omega) (by omega) ?_
  refine v_nwP X (rn_V X k_X8_freeIn ml_L_133 dL_law_1028 h8 rfl j8 hj8 kcX8.1 (by decide) (by decide) (by omega) (by omega) (Nat.le_of_ble_eq_true rfl)) (wr := [aL E oa 1 of_] ++ w) rfl (fun r8 w9 hp8 => ?_)
  obtain ⟨er, hI⟩ := hcm _ _ _ _ hp hp8
  subst er
  refine V.cast (st' := [.int v, .int v]) (ws' := ([aL E oa 1 of_] ++ w) ++ w9) rfl rfl rfl ?_
  refine v_icmp_eq X dL_law_1031 (tgt := 1906) (by decide) (fun _ => ?_) (fun h9 => absurd rfl h9)
  refine V_perm (pmz _ _ _) ?_
  exact V_wid (by omega) (by omega) (ih w w9 of_ hI)
set_option maxRecDepth 100000 in
set_option maxHeartbeats 2000000 in
theorem cs_clearIn (l : Launch) (E : Et) (Z : Zt) (b L oa x k i kc ns_ : Nat) (xs : Nat → Int32) (of_ : Nat → Int64) (w6 w8 : va_W) (X : Cx E l 40 601024 7293034 Z cL_law 7 yL_law (some .boolean)) (S : SC Z b L xs) (hL : L ≤ 3072) (hi : i + 6 ≤ L) (hk : kc + 20 ≤ 601024) (hn : ns_ + 200 ≤ 7293034) (hv : INV E x k w6 w8) (ih : ∀ (v6 v8 : va_W) (o9 : Nat → Int64), INV E x k v6 v8 → V E Z 1906 [(4, .int (nI i)), (3, .ref oa), (2, .ref k), (1, .ref x), (0, .ref b)] [] (v6 ++ (v8 ++ [aL E oa 1 o9])) (kc + 20) (ns_ + 200)) : V E Z 1036 [(4, .int (nI i)), (3, .ref oa), (2, .ref k), (1, .ref x), (0, .ref b)] [] (w6 ++ (w8 ++ [aL E oa 1 of_])) kc ns_ := by
  obtain ⟨j6, fs6, hj6⟩ := iv6 hv
  obtain ⟨j8, fs8, hj8⟩ := iv8 hv
  refine v_aload_n X dL_law_1036 rfl 3 rfl ?_
  refine v_aload_n X dL_law_1037 rfl 4 rfl ?_
  refine v_iload X dL_law_1038 0 rfl ?_
  refine v_iconst X dL_law_1040 (v := nI 1) (by decide) ?_
  refine v_iadd X dL_law_1041 ?_
  refine v_eqi (x' := nI (i + 1)) (nI_add _ _) ?_
  refine v_sld X S dL_law_1042 (j := (i + 1)) (by omega) (by omega) ?_
  obtain ⟨P6, P8, h6, h8, hr6, hcm⟩ := op_clearIn l E x k (xs (i + 1)) w6 w8 hv
  refine v_nwP X (rn_V X k_X6_clearIn ml_L_134 dL_law_1043 h6 rfl j6 hj6 kcX6.1 (by decide) (by decide) (by omega) (by omega) (Nat.le_of_ble_eq_true rfl)) (wr := w8 ++ [aL E oa 1 of_]) rfl (fun r w hp => ?_)
  obtain ⟨v, rfl⟩ := hr6 r w hp
  refine V.cast (st' := [.int v]) (ws' := w8 ++ ([aL E oa 1 of_] ++ w)) rfl rfl (List.append_assoc _ _ _) ?_
  refine v_aload_n X dL_law_1046 rfl 2 rfl ?_
  refine v_aload_n X dL_law_1047 rfl 4 rfl ?_
  refine v_iload X dL_law_1048 0 rfl ?_
  refine v_iconst X dL_law_1050 (v := nI 1) (by decide) ?_
  refine v_iadd X dL_law_1051 ?_
  refine v_eqi (x' := nI (i + 1)) (nI_add _ _) ?_
  refine v_sld X S dL_law_1052 (j := (i + 1)) (by omega) (by omega) ?_
  refine v_nwP X (rn_V X k_X8_clearIn ml_L_137 dL_law_1053 h8 rfl j8 hj8 kcX8.1 (by decide) (by decide) (by omega) (by omega) (Nat.le_of_ble_eq_true rfl)) (wr := [aL E oa 1 of_] ++ w) rfl (fun r8 w9 hp8 => ?_)
  obtain ⟨er, hI⟩ := hcm _ _ _ _ hp hp8
  subst er
  refine V.cast (st' := [.int v, .int v]) (ws' := ([aL E oa 1 of_] ++ w) ++ w9) rfl rfl rfl ?_
  refine v_icmp_eq X dL_law_1056 (tgt := 1906) (by decide) (fun _ => ?_) (fun h9 => absurd rfl h9)
  refine V_perm (pmz _ _ _) ?_
  exact V_wid (by omega) (by omega) (ih w w9 of_ hI)
set_option maxRecDepth 100000 in
set_option maxHeartbeats 2000000 in
theorem cs_mayIn (l : Launch) (E : Et) (Z : Zt) (b L oa x k i kc ns_ : Nat) (xs : Nat → Int32) (of_ : Nat → Int64) (w6 w8 : va_W) (X : Cx E l 40 601024 7293034 Z cL_law 7 yL_law (some .boolean)) (S : SC Z b L xs) (hL : L ≤ 3072) (hi : i + 6 ≤ L) (hk : kc + 20 ≤ 601024) (hn : ns_ + 200 ≤ 7293034) (hv : INV E x k w6 w8) (ih : ∀ (v6 v8 : va_W) (o9 : Nat → Int64), INV E x k v6 v8 → V E Z 1906 [(4, .int (nI i)), (3, .ref oa), (2, .ref k), (1, .ref x), (0, .ref b)] [] (v6 ++ (v8 ++ [aL E oa 1 o9])) (kc + 20) (ns_ + 200)) : V E Z 1061 [(4, .int (nI i)), (3, .ref oa), (2, .ref k), (1, .ref x), (0, .ref b)] [] (w6 ++ (w8 ++ [aL E oa 1 of_])) kc ns_ := by
  obtain ⟨j6, fs6, hj6⟩ := iv6 hv
  obtain ⟨j8, fs8, hj8⟩ := iv8 hv
  refine v_aload_n X dL_law_1061 rfl 3 rfl ?_
  refine v_aload_n X dL_law_1062 rfl 4 rfl ?_
  refine v_iload X dL_law_1063 0 rfl ?_
  refine v_iconst X dL_law_1065 (v := nI 1) (by decide) ?_
  refine v_iadd X dL_law_1066 ?_
  refine v_eqi (x' := nI (i + 1)) (nI_add _ _) ?_
  refine v_sld X S dL_law_1067 (j := (i + 1)) (by omega) (by omega) ?_
  refine v_aload_n X dL_law_1068 rfl 4 rfl ?_
  refine v_iload X dL_law_1069 0 rfl ?_
  refine v_iconst X dL_law_1071 (v := nI 2) (by decide) ?_
  refine v_iadd X dL_law_1072 ?_
  refine v_eqi (x' := nI (i + 2)) (nI_add _ _) ?_
  refine v_sld X S dL_law_1073 (j := (i + 2)) (by omega) (by omega) ?_
  obtain ⟨P6, P8, h6, h8, hr6, hcm⟩ := op_mayIn l E x k (xs (i + 1)) (xs (i + 2)) w6 w8 hv
  refine v_nwP X (rn_V X k_X6_mayIn ml_L_138 dL_law_1074 h6 rfl j6 hj6 kcX6.1 (by decide) (by decide) (by omega) (by omega) (Nat.le_of_ble_eq_true rfl)) (wr := w8 ++ [aL E oa 1 of_]) rfl (fun r w hp => ?_)
  obtain ⟨v, rfl⟩ := hr6 r w hp
  refine V.cast (st' := [.int v]) (ws' := w8 ++ ([aL E oa 1 of_] ++ w)) rfl rfl (List.append_assoc _ _ _) ?_
  refine v_aload_n X dL_law_1077 rfl 2 rfl ?_
  refine v_aload_n X dL_law_1078 rfl 4 rfl ?_
  refine v_iload X dL_law_1079 0 rfl ?_
  refine v_iconst X dL_law_1081 (v := nI 1) (by decide) ?_
  refine v_iadd X dL_law_1082 ?_
  refine v_eqi (x' := nI (i + 1)) (nI_add _ _) ?_
  refine v_sld X S dL_law_1083 (j := (i + 1)) (by omega) (by omega) ?_
  refine v_aload_n X dL_law_1084 rfl 4 rfl ?_
  refine v_iload X dL_law_1085 0 rfl ?_
  refine v_iconst X dL_law_1087 (v := nI 2) (by decide) ?_
  refine v_iadd X dL_law_1088 ?_
  refine v_eqi (x' := nI (i + 2)) (nI_add _ _) ?_
  refine v_sld X S dL_law_1089 (j := (i + 2)) (by omega) (by omega) ?_
  refine v_nwP X (rn_V X k_X8_mayIn ml_L_141 dL_law_1090 h8 rfl j8 hj8 kcX8.1 (by decide) (by decide) (by omega) (by omega) (Nat.le_of_ble_eq_true rfl)) (wr := [aL E oa 1 of_] ++ w) rfl (fun r8 w9 hp8 => ?_)
  obtain ⟨er, hI⟩ := hcm _ _ _ _ hp hp8
  subst er
  refine V.cast (st' := [.int v, .int v]) (ws' := ([aL E oa 1 of_] ++ w) ++ w9) rfl rfl rfl ?_
  refine v_icmp_eq X dL_law_1093 (tgt := 1906) (by decide) (fun _ => ?_) (fun h9 => absurd rfl h9)
  refine V_perm (pmz _ _ _) ?_
  exact V_wid (by omega) (by omega) (ih w w9 of_ hI)
set_option maxRecDepth 100000 in
set_option maxHeartbeats 2000000 in
theorem cs_fits (l : Launch) (E : Et) (Z : Zt) (b L oa x k i kc ns_ : Nat) (xs : Nat → Int32) (of_ : Nat → Int64) (w6 w8 : va_W) (X : Cx E l 40 601024 7293034 Z cL_law 7 yL_law (some .boolean)) (S : SC Z b L xs) (hL : L ≤ 3072) (hi : i + 6 ≤ L) (hk : kc + 20 ≤ 601024) (hn : ns_ + 200 ≤ 7293034) (hv : INV E x k w6 w8) (ih : ∀ (v6 v8 : va_W) (o9 : Nat → Int64), INV E x k v6 v8 → V E Z 1906 [(4, .int (nI i)), (3, .ref oa), (2, .ref k), (1, .ref x), (0, .ref b)] [] (v6 ++ (v8 ++ [aL E oa 1 o9])) (kc + 20) (ns_ + 200)) : V E Z 1098 [(4, .int (nI i)), (3, .ref oa), (2, .ref k), (1, .ref x), (0, .ref b)] [] (w6 ++ (w8 ++ [aL E oa 1 of_])) kc ns_ := by
  obtain ⟨j6, fs6, hj6⟩ := iv6 hv
  obtain ⟨j8, fs8, hj8⟩ := iv8 hv
  refine v_aload_n X dL_law_1098 rfl 3 rfl ?_
  obtain ⟨P6, P8, h6, h8, hr6, hcm⟩ := op_fits l E x k  w6 w8 hv
  refine v_nwP X (rn_V X k_X6_fits ml_L_142 dL_law_1099 h6 rfl j6 hj6 kcX6.1 (by decide) (by decide) (by omega) (by omega) (Nat.le_of_ble_eq_true rfl)) (wr := w8 ++ [aL E oa 1 of_]) rfl (fun r w hp => ?_)
  obtain ⟨v, rfl⟩ := hr6 r w hp
  refine V.cast (st' := [.int v]) (ws' := w8 ++ ([aL E oa 1 of_] ++ w)) rfl rfl (List.append_assoc _ _ _) ?_
  refine v_aload_n X dL_law_1102 rfl 2 rfl ?_
  refine v_nwP X (rn_V X k_X8_fits ml_L_145 dL_law_1103 h8 rfl j8 hj8 kcX8.1 (by decide) (by decide) (by omega) (by omega) (Nat.le_of_ble_eq_true rfl)) (wr := [aL E oa 1 of_] ++ w) rfl (fun r8 w9 hp8 => ?_)
  obtain ⟨er, hI⟩ := hcm _ _ _ _ hp hp8
  subst er
  refine V.cast (st' := [.int v, .int v]) (ws' := ([aL E oa 1 of_] ++ w) ++ w9) rfl rfl rfl ?_
  refine v_icmp_eq X dL_law_1106 (tgt := 1906) (by decide) (fun _ => ?_) (fun h9 => absurd rfl h9)
  refine V_perm (pmz _ _ _) ?_
  exact V_wid (by omega) (by omega) (ih w w9 of_ hI)
set_option maxRecDepth 100000 in
set_option maxHeartbeats 2000000 in
theorem cs_fitAt (l : Launch) (E : Et) (Z : Zt) (b L oa x k i kc ns_ : Nat) (xs : Nat → Int32) (of_ : Nat → Int64) (w6 w8 : va_W) (X : Cx E l 40 601024 7293034 Z cL_law 7 yL_law (some .boolean)) (S : SC Z b L xs) (hL : L ≤ 3072) (hi : i + 6 ≤ L) (hk : kc + 20 ≤ 601024) (hn : ns_ + 200 ≤ 7293034) (hv : INV E x k w6 w8) (ih : ∀ (v6 v8 : va_W) (o9 : Nat → Int64), INV E x k v6 v8 → V E Z 1906 [(4, .int (nI i)), (3, .ref oa), (2, .ref k), (1, .ref x), (0, .ref b)] [] (v6 ++ (v8 ++ [aL E oa 1 o9])) (kc + 20) (ns_ + 200)) : V E Z 1111 [(4, .int (nI i)), (3, .ref oa), (2, .ref k), (1, .ref x), (0, .ref b)] [] (w6 ++ (w8 ++ [aL E oa 1 of_])) kc ns_ := by
  obtain ⟨j6, fs6, hj6⟩ := iv6 hv
  obtain ⟨j8, fs8, hj8⟩ := iv8 hv
  refine v_aload_n X dL_law_1111 rfl 3 rfl ?_
  refine v_aload_n X dL_law_1112 rfl 4 rfl ?_
  refine v_iload X dL_law_1113 0 rfl ?_
  refine v_iconst X dL_law_1115 (v := nI 1) (by decide) ?_
  refine v_iadd X dL_law_1116 ?_
  refine v_eqi (x' := nI (i + 1)) (nI_add _ _) ?_
  refine v_sld X S dL_law_1117 (j := (i + 1)) (by omega) (by omega) ?_
  obtain ⟨P6, P8, h6, h8, hr6, hcm⟩ := op_fitAt l E x k (xs (i + 1)) w6 w8 hv
  refine v_nwP X (rn_V X k_X6_fitAt ml_L_146 dL_law_1118 h6 rfl j6 hj6 kcX6.1 (by decide) (by decide) (by omega) (by omega) (Nat.le_of_ble_eq_true rfl)) (wr := w8 ++ [aL E oa 1 of_]) rfl (fun r w hp => ?_)
  obtain ⟨v, rfl⟩ := hr6 r w hp
  refine V.cast (st' := [.int v]) (ws' := w8 ++ ([aL E oa 1 of_] ++ w)) rfl rfl (List.append_assoc _ _ _) ?_
  refine v_aload_n X dL_law_1121 rfl 2 rfl ?_
  refine v_aload_n X dL_law_1122 rfl 4 rfl ?_
  refine v_iload X dL_law_1123 0 rfl ?_
  refine v_iconst X dL_law_1125 (v := nI 1) (by decide) ?_
  refine v_iadd X dL_law_1126 ?_
  refine v_eqi (x' := nI (i + 1)) (nI_add _ _) ?_
  refine v_sld X S dL_law_1127 (j := (i + 1)) (by omega) (by omega) ?_
  refine v_nwP X (rn_V X k_X8_fitAt ml_L_149 dL_law_1128 h8 rfl j8 hj8 kcX8.1 (by decide) (by decide) (by omega) (by omega) (Nat.le_of_ble_eq_true rfl)) (wr := [aL E oa 1 of_] ++ w) rfl (fun r8 w9 hp8 => ?_)
  obtain ⟨er, hI⟩ := hcm _ _ _ _ hp hp8
  subst er
  refine V.cast (st' := [.int v, .int v]) (ws' := ([aL E oa 1 of_] ++ w) ++ w9) rfl rfl rfl ?_
  refine v_icmp_eq X dL_law_1131 (tgt := 1906) (by decide) (fun _ => ?_) (fun h9 => absurd rfl h9)
  refine V_perm (pmz _ _ _) ?_
  exact V_wid (by omega) (by omega) (ih w w9 of_ hI)
set_option maxRecDepth 100000 in
set_option maxHeartbeats 2000000 in
theorem cs_odds (l : Launch) (E : Et) (Z : Zt) (b L oa x k i kc ns_ : Nat) (xs : Nat → Int32) (of_ : Nat → Int64) (w6 w8 : va_W) (X : Cx E l 40 601024 7293034 Z cL_law 7 yL_law (some .boolean)) (S : SC Z b L xs) (hL : L ≤ 3072) (hi : i + 6 ≤ L) (hk : kc + 20 ≤ 601024) (hn : ns_ + 200 ≤ 7293034) (hv : INV E x k w6 w8) (ih : ∀ (v6 v8 : va_W) (o9 : Nat → Int64), INV E x k v6 v8 → V E Z 1906 [(4, .int (nI i)), (3, .ref oa), (2, .ref k), (1, .ref x), (0, .ref b)] [] (v6 ++ (v8 ++ [aL E oa 1 o9])) (kc + 20) (ns_ + 200)) : V E Z 1136 [(4, .int (nI i)), (3, .ref oa), (2, .ref k), (1, .ref x), (0, .ref b)] [] (w6 ++ (w8 ++ [aL E oa 1 of_])) kc ns_ := by
  obtain ⟨j6, fs6, hj6⟩ := iv6 hv
  obtain ⟨j8, fs8, hj8⟩ := iv8 hv
  refine v_aload_n X dL_law_1136 rfl 3 rfl ?_
  refine v_aload_n X dL_law_1137 rfl 4 rfl ?_
  refine v_iload X dL_law_1138 0 rfl ?_
  refine v_iconst X dL_law_1140 (v := nI 1) (by decide) ?_
  refine v_iadd X dL_law_1141 ?_
  refine v_eqi (x' := nI (i + 1)) (nI_add _ _) ?_
  refine v_sld X S dL_law_1142 (j := (i + 1)) (by omega) (by omega) ?_
  refine v_aload_n X dL_law_1143 rfl 4 rfl ?_
  refine v_iload X dL_law_1144 0 rfl ?_
  refine v_iconst X dL_law_1146 (v := nI 2) (by decide) ?_
  refine v_iadd X dL_law_1147 ?_
  refine v_eqi (x' := nI (i + 2)) (nI_add _ _) ?_
  refine v_sld X S dL_law_1148 (j := (i + 2)) (by omega) (by omega) ?_
  refine v_b01 X dL_law_1149 dL_law_1152 dL_law_1153 dL_law_1156 ?_
  obtain ⟨P6, P8, h6, h8, hr6, hcm⟩ := op_odds l E x k (xs (i + 1)) (decide (¬ xs (i + 2) = 0)) w6 w8 hv
  refine v_nwP X (rn_V X k_X6_odds ml_L_150 dL_law_1157 h6 rfl j6 hj6 kcX6.1 (by decide) (by decide) (by omega) (by omega) (Nat.le_of_ble_eq_true rfl)) (wr := w8 ++ [aL E oa 1 of_]) rfl (fun r w hp => ?_)
  obtain ⟨v, rfl⟩ := hr6 r w hp
  refine V.cast (st' := [.long v]) (ws' := w8 ++ ([aL E oa 1 of_] ++ w)) rfl rfl (List.append_assoc _ _ _) ?_
  refine v_aload_n X dL_law_1160 rfl 2 rfl ?_
  refine v_aload_n X dL_law_1161 rfl 4 rfl ?_
  refine v_iload X dL_law_1162 0 rfl ?_
  refine v_iconst X dL_law_1164 (v := nI 1) (by decide) ?_
  refine v_iadd X dL_law_1165 ?_
  refine v_eqi (x' := nI (i + 1)) (nI_add _ _) ?_
  refine v_sld X S dL_law_1166 (j := (i + 1)) (by omega) (by omega) ?_
  refine v_aload_n X dL_law_1167 rfl 4 rfl ?_
  refine v_iload X dL_law_1168 0 rfl ?_
  refine v_iconst X dL_law_1170 (v := nI 2) (by decide) ?_
  refine v_iadd X dL_law_1171 ?_
  refine v_eqi (x' := nI (i + 2)) (nI_add _ _) ?_
  refine v_sld X S dL_law_1172 (j := (i + 2)) (by omega) (by omega) ?_
  refine v_b01 X dL_law_1173 dL_law_1176 dL_law_1177 dL_law_1180 ?_
  refine v_nwP X (rn_V X k_X8_odds ml_L_154 dL_law_1181 h8 rfl j8 hj8 kcX8.1 (by decide) (by decide) (by omega) (by omega) (Nat.le_of_ble_eq_true rfl)) (wr := [aL E oa 1 of_] ++ w) rfl (fun r8 w9 hp8 => ?_)
  obtain ⟨er, hI⟩ := hcm _ _ _ _ hp hp8
  subst er
  refine V.cast (st' := [.long v, .long v]) (ws' := ([aL E oa 1 of_] ++ w) ++ w9) rfl rfl rfl ?_
  refine v_lcmp X dL_law_1184 ?_
  refine v_ifL_eq X dL_law_1185 (tgt := 1906) (by decide) (fun _ => ?_) (fun h9 => absurd rfl h9)
  refine V_perm (pmz _ _ _) ?_
  exact V_wid (by omega) (by omega) (ih w w9 of_ hI)
set_option maxRecDepth 100000 in
set_option maxHeartbeats 2000000 in
theorem cs_likeliest (l : Launch) (E : Et) (Z : Zt) (b L oa x k i kc ns_ : Nat) (xs : Nat → Int32) (of_ : Nat → Int64) (w6 w8 : va_W) (X : Cx E l 40 601024 7293034 Z cL_law 7 yL_law (some .boolean)) (S : SC Z b L xs) (hL : L ≤ 3072) (hi : i + 6 ≤ L) (hk : kc + 20 ≤ 601024) (hn : ns_ + 200 ≤ 7293034) (hv : INV E x k w6 w8) (ih : ∀ (v6 v8 : va_W) (o9 : Nat → Int64), INV E x k v6 v8 → V E Z 1906 [(4, .int (nI i)), (3, .ref oa), (2, .ref k), (1, .ref x), (0, .ref b)] [] (v6 ++ (v8 ++ [aL E oa 1 o9])) (kc + 20) (ns_ + 200)) : V E Z 1190 [(4, .int (nI i)), (3, .ref oa), (2, .ref k), (1, .ref x), (0, .ref b)] [] (w6 ++ (w8 ++ [aL E oa 1 of_])) kc ns_ := by
  obtain ⟨j6, fs6, hj6⟩ := iv6 hv
  obtain ⟨j8, fs8, hj8⟩ := iv8 hv
  refine v_aload_n X dL_law_1190 rfl 3 rfl ?_
  obtain ⟨P6, P8, h6, h8, hr6, hcm⟩ := op_likeliest l E x k  w6 w8 hv
  refine v_nwP X (rn_V X k_X6_likeliest ml_L_155 dL_law_1191 h6 rfl j6 hj6 kcX6.1 (by decide) (by decide) (by omega) (by omega) (Nat.le_of_ble_eq_true rfl)) (wr := w8 ++ [aL E oa 1 of_]) rfl (fun r w hp => ?_)
  obtain ⟨v, rfl⟩ := hr6 r w hp
  refine V.cast (st' := [.int v]) (ws' := w8 ++ ([aL E oa 1 of_] ++ w)) rfl rfl (List.append_assoc _ _ _) ?_
  refine v_aload_n X dL_law_1194 rfl 2 rfl ?_
  refine v_nwP X (rn_V X k_X8_likeliest ml_L_158 dL_law_1195 h8 rfl j8 hj8 kcX8.1 (by decide) (by decide) (by omega) (by omega) (Nat.le_of_ble_eq_true rfl)) (wr := [aL E oa 1 of_] ++ w) rfl (fun r8 w9 hp8 => ?_)
  obtain ⟨er, hI⟩ := hcm _ _ _ _ hp hp8
  subst er
  refine V.cast (st' := [.int v, .int v]) (ws' := ([aL E oa 1 of_] ++ w) ++ w9) rfl rfl rfl ?_
  refine v_icmp_eq X dL_law_1198 (tgt := 1906) (by decide) (fun _ => ?_) (fun h9 => absurd rfl h9)
  refine V_perm (pmz _ _ _) ?_
  exact V_wid (by omega) (by omega) (ih w w9 of_ hI)
set_option maxRecDepth 100000 in
set_option maxHeartbeats 2000000 in
theorem cs_ask (l : Launch) (E : Et) (Z : Zt) (b L oa x k i kc ns_ : Nat) (xs : Nat → Int32) (of_ : Nat → Int64) (w6 w8 : va_W) (X : Cx E l 40 601024 7293034 Z cL_law 7 yL_law (some .boolean)) (S : SC Z b L xs) (hL : L ≤ 3072) (hi : i + 6 ≤ L) (hk : kc + 20 ≤ 601024) (hn : ns_ + 200 ≤ 7293034) (hv : INV E x k w6 w8) (ih : ∀ (v6 v8 : va_W) (o9 : Nat → Int64), INV E x k v6 v8 → V E Z 1906 [(4, .int (nI i)), (3, .ref oa), (2, .ref k), (1, .ref x), (0, .ref b)] [] (v6 ++ (v8 ++ [aL E oa 1 o9])) (kc + 20) (ns_ + 200)) : V E Z 1203 [(4, .int (nI i)), (3, .ref oa), (2, .ref k), (1, .ref x), (0, .ref b)] [] (w6 ++ (w8 ++ [aL E oa 1 of_])) kc ns_ := by
  obtain ⟨j6, fs6, hj6⟩ := iv6 hv
  obtain ⟨j8, fs8, hj8⟩ := iv8 hv
  refine v_aload_n X dL_law_1203 rfl 3 rfl ?_
  obtain ⟨P6, P8, h6, h8, hr6, hcm⟩ := op_ask l E x k  w6 w8 hv
  refine v_nwP X (rn_V X k_X6_ask ml_L_159 dL_law_1204 h6 rfl j6 hj6 kcX6.1 (by decide) (by decide) (by omega) (by omega) (Nat.le_of_ble_eq_true rfl)) (wr := w8 ++ [aL E oa 1 of_]) rfl (fun r w hp => ?_)
  obtain ⟨v, rfl⟩ := hr6 r w hp
  refine V.cast (st' := [.int v]) (ws' := w8 ++ ([aL E oa 1 of_] ++ w)) rfl rfl (List.append_assoc _ _ _) ?_
  refine v_aload_n X dL_law_1207 rfl 2 rfl ?_
  refine v_nwP X (rn_V X k_X8_ask ml_L_162 dL_law_1208 h8 rfl j8 hj8 kcX8.1 (by decide) (by decide) (by omega) (by omega) (Nat.le_of_ble_eq_true rfl)) (wr := [aL E oa 1 of_] ++ w) rfl (fun r8 w9 hp8 => ?_)
  obtain ⟨er, hI⟩ := hcm _ _ _ _ hp hp8
  subst er
  refine V.cast (st' := [.int v, .int v]) (ws' := ([aL E oa 1 of_] ++ w) ++ w9) rfl rfl rfl ?_
  refine v_icmp_eq X dL_law_1211 (tgt := 1906) (by decide) (fun _ => ?_) (fun h9 => absurd rfl h9)
  refine V_perm (pmz _ _ _) ?_
  exact V_wid (by omega) (by omega) (ih w w9 of_ hI)
set_option maxRecDepth 100000 in
set_option maxHeartbeats 2000000 in
theorem cs_askLeaves (l : Launch) (E : Et) (Z : Zt) (b L oa x k i kc ns_ : Nat) (xs : Nat → Int32) (of_ : Nat → Int64) (w6 w8 : va_W) (X : Cx E l 40 601024 7293034 Z cL_law 7 yL_law (some .boolean)) (S : SC Z b L xs) (hL : L ≤ 3072) (hi : i + 6 ≤ L) (hk : kc + 20 ≤ 601024) (hn : ns_ + 200 ≤ 7293034) (hv : INV E x k w6 w8) (ih : ∀ (v6 v8 : va_W) (o9 : Nat → Int64), INV E x k v6 v8 → V E Z 1906 [(4, .int (nI i)), (3, .ref oa), (2, .ref k), (1, .ref x), (0, .ref b)] [] (v6 ++ (v8 ++ [aL E oa 1 o9])) (kc + 20) (ns_ + 200)) : V E Z 1216 [(4, .int (nI i)), (3, .ref oa), (2, .ref k), (1, .ref x), (0, .ref b)] [] (w6 ++ (w8 ++ [aL E oa 1 of_])) kc ns_ := by
  obtain ⟨j6, fs6, hj6⟩ := iv6 hv
  obtain ⟨j8, fs8, hj8⟩ := iv8 hv
  refine v_aload_n X dL_law_1216 rfl 3 rfl ?_
  obtain ⟨P6, P8, h6, h8, hr6, hcm⟩ := op_askLeaves l E x k  w6 w8 hv
  refine v_nwP X (rn_V X k_X6_askLeaves ml_L_163 dL_law_1217 h6 rfl j6 hj6 kcX6.1 (by decide) (by decide) (by omega) (by omega) (Nat.le_of_ble_eq_true rfl)) (wr := w8 ++ [aL E oa 1 of_]) rfl (fun r w hp => ?_)
  obtain ⟨v, rfl⟩ := hr6 r w hp
  refine V.cast (st' := [.int v]) (ws' := w8 ++ ([aL E oa 1 of_] ++ w)) rfl rfl (List.append_assoc _ _ _) ?_
  refine v_aload_n X dL_law_1220 rfl 2 rfl ?_
  refine v_nwP X (rn_V X k_X8_askLeaves ml_L_166 dL_law_1221 h8 rfl j8 hj8 kcX8.1 (by decide) (by decide) (by omega) (by omega) (Nat.le_of_ble_eq_true rfl)) (wr := [aL E oa 1 of_] ++ w) rfl (fun r8 w9 hp8 => ?_)
  obtain ⟨er, hI⟩ := hcm _ _ _ _ hp hp8
  subst er
  refine V.cast (st' := [.int v, .int v]) (ws' := ([aL E oa 1 of_] ++ w) ++ w9) rfl rfl rfl ?_
  refine v_icmp_eq X dL_law_1224 (tgt := 1906) (by decide) (fun _ => ?_) (fun h9 => absurd rfl h9)
  refine V_perm (pmz _ _ _) ?_
  exact V_wid (by omega) (by omega) (ih w w9 of_ hI)
set_option maxRecDepth 100000 in
set_option maxHeartbeats 2000000 in
theorem cs_judge (l : Launch) (E : Et) (Z : Zt) (b L oa x k i kc ns_ : Nat) (xs : Nat → Int32) (of_ : Nat → Int64) (w6 w8 : va_W) (X : Cx E l 40 601024 7293034 Z cL_law 7 yL_law (some .boolean)) (S : SC Z b L xs) (hL : L ≤ 3072) (hi : i + 6 ≤ L) (hk : kc + 20 ≤ 601024) (hn : ns_ + 200 ≤ 7293034) (hv : INV E x k w6 w8) (ih : ∀ (v6 v8 : va_W) (o9 : Nat → Int64), INV E x k v6 v8 → V E Z 1906 [(4, .int (nI i)), (3, .ref oa), (2, .ref k), (1, .ref x), (0, .ref b)] [] (v6 ++ (v8 ++ [aL E oa 1 o9])) (kc + 20) (ns_ + 200)) : V E Z 1229 [(4, .int (nI i)), (3, .ref oa), (2, .ref k), (1, .ref x), (0, .ref b)] [] (w6 ++ (w8 ++ [aL E oa 1 of_])) kc ns_ := by
  obtain ⟨j6, fs6, hj6⟩ := iv6 hv
  obtain ⟨j8, fs8, hj8⟩ := iv8 hv
  refine v_aload_n X dL_law_1229 rfl 3 rfl ?_
  obtain ⟨P6, P8, h6, h8, hr6, hcm⟩ := op_judge l E x k  w6 w8 hv
  refine v_nwP X (rn_V X k_X6_judge ml_L_167 dL_law_1230 h6 rfl j6 hj6 kcX6.1 (by decide) (by decide) (by omega) (by omega) (Nat.le_of_ble_eq_true rfl)) (wr := w8 ++ [aL E oa 1 of_]) rfl (fun r w hp => ?_)
  obtain ⟨v, rfl⟩ := hr6 r w hp
  refine V.cast (st' := [.int v]) (ws' := w8 ++ ([aL E oa 1 of_] ++ w)) rfl rfl (List.append_assoc _ _ _) ?_
  refine v_aload_n X dL_law_1233 rfl 2 rfl ?_
  refine v_nwP X (rn_V X k_X8_judge ml_L_170 dL_law_1234 h8 rfl j8 hj8 kcX8.1 (by decide) (by decide) (by omega) (by omega) (Nat.le_of_ble_eq_true rfl)) (wr := [aL E oa 1 of_] ++ w) rfl (fun r8 w9 hp8 => ?_)
  obtain ⟨er, hI⟩ := hcm _ _ _ _ hp hp8
  subst er
  refine V.cast (st' := [.int v, .int v]) (ws' := ([aL E oa 1 of_] ++ w) ++ w9) rfl rfl rfl ?_
  refine v_icmp_eq X dL_law_1237 (tgt := 1906) (by decide) (fun _ => ?_) (fun h9 => absurd rfl h9)
  refine V_perm (pmz _ _ _) ?_
  exact V_wid (by omega) (by omega) (ih w w9 of_ hI)
set_option maxRecDepth 100000 in
set_option maxHeartbeats 2000000 in
theorem cs_shaves (l : Launch) (E : Et) (Z : Zt) (b L oa x k i kc ns_ : Nat) (xs : Nat → Int32) (of_ : Nat → Int64) (w6 w8 : va_W) (X : Cx E l 40 601024 7293034 Z cL_law 7 yL_law (some .boolean)) (S : SC Z b L xs) (hL : L ≤ 3072) (hi : i + 6 ≤ L) (hk : kc + 20 ≤ 601024) (hn : ns_ + 200 ≤ 7293034) (hv : INV E x k w6 w8) (ih : ∀ (v6 v8 : va_W) (o9 : Nat → Int64), INV E x k v6 v8 → V E Z 1906 [(4, .int (nI i)), (3, .ref oa), (2, .ref k), (1, .ref x), (0, .ref b)] [] (v6 ++ (v8 ++ [aL E oa 1 o9])) (kc + 20) (ns_ + 200)) : V E Z 1242 [(4, .int (nI i)), (3, .ref oa), (2, .ref k), (1, .ref x), (0, .ref b)] [] (w6 ++ (w8 ++ [aL E oa 1 of_])) kc ns_ := by
  obtain ⟨j6, fs6, hj6⟩ := iv6 hv
  obtain ⟨j8, fs8, hj8⟩ := iv8 hv
  refine v_aload_n X dL_law_1242 rfl 3 rfl ?_
  refine v_aload_n X dL_law_1243 rfl 4 rfl ?_
  refine v_iload X dL_law_1244 0 rfl ?_
  refine v_iconst X dL_law_1246 (v := nI 1) (by decide) ?_
  refine v_iadd X dL_law_1247 ?_
  refine v_eqi (x' := nI (i + 1)) (nI_add _ _) ?_
  refine v_sld X S dL_law_1248 (j := (i + 1)) (by omega) (by omega) ?_
  refine v_aload_n X dL_law_1249 rfl 4 rfl ?_
  refine v_iload X dL_law_1250 0 rfl ?_
  refine v_iconst X dL_law_1252 (v := nI 2) (by decide) ?_
  refine v_iadd X dL_law_1253 ?_
  refine v_eqi (x' := nI (i + 2)) (nI_add _ _) ?_
  refine v_sld X S dL_law_1254 (j := (i + 2)) (by omega) (by omega) ?_
  refine v_b01 X dL_law_1255 dL_law_1258 dL_law_1259 dL_law_1262 ?_
  refine v_aload_n X dL_law_1263 rfl 4 rfl ?_
  refine v_iload X dL_law_1264 0 rfl ?_
  refine v_iconst X dL_law_1266 (v := nI 3) (by decide) ?_
  refine v_iadd X dL_law_1267 ?_
  refine v_eqi (x' := nI (i + 3)) (nI_add _ _) ?_
  refine v_sld X S dL_law_1268 (j := (i + 3)) (by omega) (by omega) ?_
  refine v_b01 X dL_law_1269 dL_law_1272 dL_law_1273 dL_law_1276 ?_
  refine v_aload_n X dL_law_1277 rfl 4 rfl ?_
  refine v_iload X dL_law_1278 0 rfl ?_
  refine v_iconst X dL_law_1280 (v := nI 4) (by decide) ?_
  refine v_iadd X dL_law_1281 ?_
  refine v_eqi (x' := nI (i + 4)) (nI_add _ _) ?_
  refine v_sld X S dL_law_1282 (j := (i + 4)) (by omega) (by omega) ?_
  refine v_b01 X dL_law_1283 dL_law_1286 dL_law_1287 dL_law_1290 ?_
  obtain ⟨P6, P8, h6, h8, hr6, hcm⟩ := op_shaves l E x k (xs (i + 1)) (decide (¬ xs (i + 2) = 0)) (decide (¬ xs (i + 3) = 0)) (decide (¬ xs (i + 4) = 0)) w6 w8 hv
  refine v_nwP X (rn_V X k_X6_shaves ml_L_171 dL_law_1291 h6 rfl j6 hj6 kcX6.1 (by decide) (by decide) (by omega) (by omega) (Nat.le_of_ble_eq_true rfl)) (wr := w8 ++ [aL E oa 1 of_]) rfl (fun r w hp => ?_)
  obtain ⟨v, rfl⟩ := hr6 r w hp
  refine V.cast (st' := [.int v]) (ws' := w8 ++ ([aL E oa 1 of_] ++ w)) rfl rfl (List.append_assoc _ _ _) ?_
  refine v_aload_n X dL_law_1294 rfl 2 rfl ?_
  refine v_aload_n X dL_law_1295 rfl 4 rfl ?_
  refine v_iload X dL_law_1296 0 rfl ?_
  refine v_iconst X dL_law_1298 (v := nI 1) (by decide) ?_
  refine v_iadd X dL_law_1299 ?_
  refine v_eqi (x' := nI (i + 1)) (nI_add _ _) ?_
  refine v_sld X S dL_law_1300 (j := (i + 1)) (by omega) (by omega) ?_
  refine v_aload_n X dL_law_1301 rfl 4 rfl ?_
  refine v_iload X dL_law_1302 0 rfl ?_
  refine v_iconst X dL_law_1304 (v := nI 2) (by decide) ?_
  refine v_iadd X dL_law_1305 ?_
  refine v_eqi (x' := nI (i + 2)) (nI_add _ _) ?_
  refine v_sld X S dL_law_1306 (j := (i + 2)) (by omega) (by omega) ?_
  refine v_b01 X dL_law_1307 dL_law_1310 dL_law_1311 dL_law_1314 ?_
  refine v_aload_n X dL_law_1315 rfl 4 rfl ?_
  refine v_iload X dL_law_1316 0 rfl ?_
  refine v_iconst X dL_law_1318 (v := nI 3) (by decide) ?_
  refine v_iadd X dL_law_1319 ?_
  refine v_eqi (x' := nI (i + 3)) (nI_add _ _) ?_
  refine v_sld X S dL_law_1320 (j := (i + 3)) (by omega) (by omega) ?_
  refine v_b01 X dL_law_1321 dL_law_1324 dL_law_1325 dL_law_1328 ?_
  refine v_aload_n X dL_law_1329 rfl 4 rfl ?_
  refine v_iload X dL_law_1330 0 rfl ?_
  refine v_iconst X dL_law_1332 (v := nI 4) (by decide) ?_
  refine v_iadd X dL_law_1333 ?_
  refine v_eqi (x' := nI (i + 4)) (nI_add _ _) ?_
  refine v_sld X S dL_law_1334 (j := (i + 4)) (by omega) (by omega) ?_
  refine v_b01 X dL_law_1335 dL_law_1338 dL_law_1339 dL_law_1342 ?_
  refine v_nwP X (rn_V X k_X8_shaves ml_L_175 dL_law_1343 h8 rfl j8 hj8 kcX8.1 (by decide) (by decide) (by omega) (by omega) (Nat.le_of_ble_eq_true rfl)) (wr := [aL E oa 1 of_] ++ w) rfl (fun r8 w9 hp8 => ?_)
  obtain ⟨er, hI⟩ := hcm _ _ _ _ hp hp8
  subst er
  refine V.cast (st' := [.int v, .int v]) (ws' := ([aL E oa 1 of_] ++ w) ++ w9) rfl rfl rfl ?_
  refine v_icmp_eq X dL_law_1346 (tgt := 1906) (by decide) (fun _ => ?_) (fun h9 => absurd rfl h9)
  refine V_perm (pmz _ _ _) ?_
  exact V_wid (by omega) (by omega) (ih w w9 of_ hI)
set_option maxRecDepth 100000 in
set_option maxHeartbeats 2000000 in
theorem cs_rests (l : Launch) (E : Et) (Z : Zt) (b L oa x k i kc ns_ : Nat) (xs : Nat → Int32) (of_ : Nat → Int64) (w6 w8 : va_W) (X : Cx E l 40 601024 7293034 Z cL_law 7 yL_law (some .boolean)) (S : SC Z b L xs) (hL : L ≤ 3072) (hi : i + 6 ≤ L) (hk : kc + 20 ≤ 601024) (hn : ns_ + 200 ≤ 7293034) (hv : INV E x k w6 w8) (ih : ∀ (v6 v8 : va_W) (o9 : Nat → Int64), INV E x k v6 v8 → V E Z 1906 [(4, .int (nI i)), (3, .ref oa), (2, .ref k), (1, .ref x), (0, .ref b)] [] (v6 ++ (v8 ++ [aL E oa 1 o9])) (kc + 20) (ns_ + 200)) : V E Z 1351 [(4, .int (nI i)), (3, .ref oa), (2, .ref k), (1, .ref x), (0, .ref b)] [] (w6 ++ (w8 ++ [aL E oa 1 of_])) kc ns_ := by
  obtain ⟨j6, fs6, hj6⟩ := iv6 hv
  obtain ⟨j8, fs8, hj8⟩ := iv8 hv
  refine v_aload_n X dL_law_1351 rfl 3 rfl ?_
  refine v_aload_n X dL_law_1352 rfl 4 rfl ?_
  refine v_iload X dL_law_1353 0 rfl ?_
  refine v_iconst X dL_law_1355 (v := nI 1) (by decide) ?_
  refine v_iadd X dL_law_1356 ?_
  refine v_eqi (x' := nI (i + 1)) (nI_add _ _) ?_
  refine v_sld X S dL_law_1357 (j := (i + 1)) (by omega) (by omega) ?_
  obtain ⟨P6, P8, h6, h8, hr6, hcm⟩ := op_rests l E x k (xs (i + 1)) w6 w8 hv
  refine v_nwP X (rn_V X k_X6_rests ml_L_176 dL_law_1358 h6 rfl j6 hj6 kcX6.1 (by decide) (by decide) (by omega) (by omega) (Nat.le_of_ble_eq_true rfl)) (wr := w8 ++ [aL E oa 1 of_]) rfl (fun r w hp => ?_)
  obtain ⟨v, rfl⟩ := hr6 r w hp
  refine V.cast (st' := [.int v]) (ws' := w8 ++ ([aL E oa 1 of_] ++ w)) rfl rfl (List.append_assoc _ _ _) ?_
  refine v_aload_n X dL_law_1361 rfl 2 rfl ?_
  refine v_aload_n X dL_law_1362 rfl 4 rfl ?_
  refine v_iload X dL_law_1363 0 rfl ?_
  refine v_iconst X dL_law_1365 (v := nI 1) (by decide) ?_
  refine v_iadd X dL_law_1366 ?_
  refine v_eqi (x' := nI (i + 1)) (nI_add _ _) ?_
  refine v_sld X S dL_law_1367 (j := (i + 1)) (by omega) (by omega) ?_
  refine v_nwP X (rn_V X k_X8_rests ml_L_179 dL_law_1368 h8 rfl j8 hj8 kcX8.1 (by decide) (by decide) (by omega) (by omega) (Nat.le_of_ble_eq_true rfl)) (wr := [aL E oa 1 of_] ++ w) rfl (fun r8 w9 hp8 => ?_)
  obtain ⟨er, hI⟩ := hcm _ _ _ _ hp hp8
  subst er
  refine V.cast (st' := [.int v, .int v]) (ws' := ([aL E oa 1 of_] ++ w) ++ w9) rfl rfl rfl ?_
  refine v_icmp_eq X dL_law_1371 (tgt := 1906) (by decide) (fun _ => ?_) (fun h9 => absurd rfl h9)
  refine V_perm (pmz _ _ _) ?_
  exact V_wid (by omega) (by omega) (ih w w9 of_ hI)
set_option maxRecDepth 100000 in
set_option maxHeartbeats 2000000 in
theorem cs_rest (l : Launch) (E : Et) (Z : Zt) (b L oa x k i kc ns_ : Nat) (xs : Nat → Int32) (of_ : Nat → Int64) (w6 w8 : va_W) (X : Cx E l 40 601024 7293034 Z cL_law 7 yL_law (some .boolean)) (S : SC Z b L xs) (hL : L ≤ 3072) (hi : i + 6 ≤ L) (hk : kc + 20 ≤ 601024) (hn : ns_ + 200 ≤ 7293034) (hv : INV E x k w6 w8) (ih : ∀ (v6 v8 : va_W) (o9 : Nat → Int64), INV E x k v6 v8 → V E Z 1906 [(4, .int (nI i)), (3, .ref oa), (2, .ref k), (1, .ref x), (0, .ref b)] [] (v6 ++ (v8 ++ [aL E oa 1 o9])) (kc + 20) (ns_ + 200)) : V E Z 1376 [(4, .int (nI i)), (3, .ref oa), (2, .ref k), (1, .ref x), (0, .ref b)] [] (w6 ++ (w8 ++ [aL E oa 1 of_])) kc ns_ := by
  obtain ⟨j6, fs6, hj6⟩ := iv6 hv
  obtain ⟨j8, fs8, hj8⟩ := iv8 hv
  refine v_aload_n X dL_law_1376 rfl 3 rfl ?_
  refine v_aload_n X dL_law_1377 rfl 4 rfl ?_
  refine v_iload X dL_law_1378 0 rfl ?_
  refine v_iconst X dL_law_1380 (v := nI 1) (by decide) ?_
  refine v_iadd X dL_law_1381 ?_
  refine v_eqi (x' := nI (i + 1)) (nI_add _ _) ?_
  refine v_sld X S dL_law_1382 (j := (i + 1)) (by omega) (by omega) ?_
  obtain ⟨P6, P8, h6, h8, hr6, hcm⟩ := op_rest l E x k (xs (i + 1)) w6 w8 hv
  refine v_nwP X (rn_V X k_X6_rest ml_L_180 dL_law_1383 h6 rfl j6 hj6 kcX6.1 (by decide) (by decide) (by omega) (by omega) (Nat.le_of_ble_eq_true rfl)) (wr := w8 ++ [aL E oa 1 of_]) rfl (fun r w hp => ?_)
  obtain ⟨v, rfl⟩ := hr6 r w hp
  refine V.cast (st' := [.int v]) (ws' := w8 ++ ([aL E oa 1 of_] ++ w)) rfl rfl (List.append_assoc _ _ _) ?_
  refine v_aload_n X dL_law_1386 rfl 2 rfl ?_
  refine v_aload_n X dL_law_1387 rfl 4 rfl ?_
  refine v_iload X dL_law_1388 0 rfl ?_
  refine v_iconst X dL_law_1390 (v := nI 1) (by decide) ?_
  refine v_iadd X dL_law_1391 ?_
  refine v_eqi (x' := nI (i + 1)) (nI_add _ _) ?_
  refine v_sld X S dL_law_1392 (j := (i + 1)) (by omega) (by omega) ?_
  refine v_nwP X (rn_V X k_X8_rest ml_L_183 dL_law_1393 h8 rfl j8 hj8 kcX8.1 (by decide) (by decide) (by omega) (by omega) (Nat.le_of_ble_eq_true rfl)) (wr := [aL E oa 1 of_] ++ w) rfl (fun r8 w9 hp8 => ?_)
  obtain ⟨er, hI⟩ := hcm _ _ _ _ hp hp8
  subst er
  refine V.cast (st' := [.int v, .int v]) (ws' := ([aL E oa 1 of_] ++ w) ++ w9) rfl rfl rfl ?_
  refine v_icmp_eq X dL_law_1396 (tgt := 1906) (by decide) (fun _ => ?_) (fun h9 => absurd rfl h9)
  refine V_perm (pmz _ _ _) ?_
  exact V_wid (by omega) (by omega) (ih w w9 of_ hI)
set_option maxRecDepth 100000 in
set_option maxHeartbeats 2000000 in
theorem cs_mayOdds (l : Launch) (E : Et) (Z : Zt) (b L oa x k i kc ns_ : Nat) (xs : Nat → Int32) (of_ : Nat → Int64) (w6 w8 : va_W) (X : Cx E l 40 601024 7293034 Z cL_law 7 yL_law (some .boolean)) (S : SC Z b L xs) (hL : L ≤ 3072) (hi : i + 6 ≤ L) (hk : kc + 20 ≤ 601024) (hn : ns_ + 200 ≤ 7293034) (hv : INV E x k w6 w8) (ih : ∀ (v6 v8 : va_W) (o9 : Nat → Int64), INV E x k v6 v8 → V E Z 1906 [(4, .int (nI i)), (3, .ref oa), (2, .ref k), (1, .ref x), (0, .ref b)] [] (v6 ++ (v8 ++ [aL E oa 1 o9])) (kc + 20) (ns_ + 200)) : V E Z 1401 [(4, .int (nI i)), (3, .ref oa), (2, .ref k), (1, .ref x), (0, .ref b)] [] (w6 ++ (w8 ++ [aL E oa 1 of_])) kc ns_ := by
  obtain ⟨j6, fs6, hj6⟩ := iv6 hv
  obtain ⟨j8, fs8, hj8⟩ := iv8 hv
  refine v_aload_n X dL_law_1401 rfl 3 rfl ?_
  refine v_aload_n X dL_law_1402 rfl 4 rfl ?_
  refine v_iload X dL_law_1403 0 rfl ?_
  refine v_iconst X dL_law_1405 (v := nI 1) (by decide) ?_
  refine v_iadd X dL_law_1406 ?_
  refine v_eqi (x' := nI (i + 1)) (nI_add _ _) ?_
  refine v_sld X S dL_law_1407 (j := (i + 1)) (by omega) (by omega) ?_
  refine v_aload_n X dL_law_1408 rfl 4 rfl ?_
  refine v_iload X dL_law_1409 0 rfl ?_
  refine v_iconst X dL_law_1411 (v := nI 2) (by decide) ?_
  refine v_iadd X dL_law_1412 ?_
  refine v_eqi (x' := nI (i + 2)) (nI_add _ _) ?_
  refine v_sld X S dL_law_1413 (j := (i + 2)) (by omega) (by omega) ?_
  refine v_aload_n X dL_law_1414 rfl 4 rfl ?_
  refine v_iload X dL_law_1415 0 rfl ?_
  refine v_iconst X dL_law_1417 (v := nI 3) (by decide) ?_
  refine v_iadd X dL_law_1418 ?_
  refine v_eqi (x' := nI (i + 3)) (nI_add _ _) ?_
  refine v_sld X S dL_law_1419 (j := (i + 3)) (by omega) (by omega) ?_
  refine v_b01 X dL_law_1420 dL_law_1423 dL_law_1424 dL_law_1427 ?_
  obtain ⟨P6, P8, h6, h8, hr6, hcm⟩ := op_mayOdds l E x k (xs (i + 1)) (xs (i + 2)) (decide (¬ xs (i + 3) = 0)) w6 w8 hv
  refine v_nwP X (rn_V X k_X6_mayOdds ml_L_184 dL_law_1428 h6 rfl j6 hj6 kcX6.1 (by decide) (by decide) (by omega) (by omega) (Nat.le_of_ble_eq_true rfl)) (wr := w8 ++ [aL E oa 1 of_]) rfl (fun r w hp => ?_)
  obtain ⟨v, rfl⟩ := hr6 r w hp
  refine V.cast (st' := [.long v]) (ws' := w8 ++ ([aL E oa 1 of_] ++ w)) rfl rfl (List.append_assoc _ _ _) ?_
  refine v_aload_n X dL_law_1431 rfl 2 rfl ?_
  refine v_aload_n X dL_law_1432 rfl 4 rfl ?_
  refine v_iload X dL_law_1433 0 rfl ?_
  refine v_iconst X dL_law_1435 (v := nI 1) (by decide) ?_
  refine v_iadd X dL_law_1436 ?_
  refine v_eqi (x' := nI (i + 1)) (nI_add _ _) ?_
  refine v_sld X S dL_law_1437 (j := (i + 1)) (by omega) (by omega) ?_
  refine v_aload_n X dL_law_1438 rfl 4 rfl ?_
  refine v_iload X dL_law_1439 0 rfl ?_
  refine v_iconst X dL_law_1441 (v := nI 2) (by decide) ?_
  refine v_iadd X dL_law_1442 ?_
  refine v_eqi (x' := nI (i + 2)) (nI_add _ _) ?_
  refine v_sld X S dL_law_1443 (j := (i + 2)) (by omega) (by omega) ?_
  refine v_aload_n X dL_law_1444 rfl 4 rfl ?_
  refine v_iload X dL_law_1445 0 rfl ?_
  refine v_iconst X dL_law_1447 (v := nI 3) (by decide) ?_
  refine v_iadd X dL_law_1448 ?_
  refine v_eqi (x' := nI (i + 3)) (nI_add _ _) ?_
  refine v_sld X S dL_law_1449 (j := (i + 3)) (by omega) (by omega) ?_
  refine v_b01 X dL_law_1450 dL_law_1453 dL_law_1454 dL_law_1457 ?_
  refine v_nwP X (rn_V X k_X8_mayOdds ml_L_188 dL_law_1458 h8 rfl j8 hj8 kcX8.1 (by decide) (by decide) (by omega) (by omega) (Nat.le_of_ble_eq_true rfl)) (wr := [aL E oa 1 of_] ++ w) rfl (fun r8 w9 hp8 => ?_)
  obtain ⟨er, hI⟩ := hcm _ _ _ _ hp hp8
  subst er
  refine V.cast (st' := [.long v, .long v]) (ws' := ([aL E oa 1 of_] ++ w) ++ w9) rfl rfl rfl ?_
  refine v_lcmp X dL_law_1461 ?_
  refine v_ifL_eq X dL_law_1462 (tgt := 1906) (by decide) (fun _ => ?_) (fun h9 => absurd rfl h9)
  refine V_perm (pmz _ _ _) ?_
  exact V_wid (by omega) (by omega) (ih w w9 of_ hI)
set_option maxRecDepth 100000 in
set_option maxHeartbeats 2000000 in
theorem cs_freeOdds (l : Launch) (E : Et) (Z : Zt) (b L oa x k i kc ns_ : Nat) (xs : Nat → Int32) (of_ : Nat → Int64) (w6 w8 : va_W) (X : Cx E l 40 601024 7293034 Z cL_law 7 yL_law (some .boolean)) (S : SC Z b L xs) (hL : L ≤ 3072) (hi : i + 6 ≤ L) (hk : kc + 20 ≤ 601024) (hn : ns_ + 200 ≤ 7293034) (hv : INV E x k w6 w8) (ih : ∀ (v6 v8 : va_W) (o9 : Nat → Int64), INV E x k v6 v8 → V E Z 1906 [(4, .int (nI i)), (3, .ref oa), (2, .ref k), (1, .ref x), (0, .ref b)] [] (v6 ++ (v8 ++ [aL E oa 1 o9])) (kc + 20) (ns_ + 200)) : V E Z 1467 [(4, .int (nI i)), (3, .ref oa), (2, .ref k), (1, .ref x), (0, .ref b)] [] (w6 ++ (w8 ++ [aL E oa 1 of_])) kc ns_ := by
  obtain ⟨j6, fs6, hj6⟩ := iv6 hv
  obtain ⟨j8, fs8, hj8⟩ := iv8 hv
  refine v_aload_n X dL_law_1467 rfl 3 rfl ?_
  refine v_aload_n X dL_law_1468 rfl 4 rfl ?_
  refine v_iload X dL_law_1469 0 rfl ?_
  refine v_iconst X dL_law_1471 (v := nI 1) (by decide) ?_
  refine v_iadd X dL_law_1472 ?_
  refine v_eqi (x' := nI (i + 1)) (nI_add _ _) ?_
  refine v_sld X S dL_law_1473 (j := (i + 1)) (by omega) (by omega) ?_
  refine v_aload_n X dL_law_1474 rfl 4 rfl ?_
  refine v_iload X dL_law_1475 0 rfl ?_
  refine v_iconst X dL_law_1477 (v := nI 2) (by decide) ?_
  refine v_iadd X dL_law_1478 ?_
  refine v_eqi (x' := nI (i + 2)) (nI_add _ _) ?_
  refine v_sld X S dL_law_1479 (j := (i + 2)) (by omega) (by omega) ?_
  refine v_b01 X dL_law_1480 dL_law_1483 dL_law_1484 dL_law_1487 ?_
  obtain ⟨P6, P8, h6, h8, hr6, hcm⟩ := op_freeOdds l E x k (xs (i + 1)) (decide (¬ xs (i + 2) = 0)) w6 w8 hv
  refine v_nwP X (rn_V X k_X6_freeOdds ml_L_189 dL_law_1488 h6 rfl j6 hj6 kcX6.1 (by decide) (by decide) (by omega) (by omega) (Nat.le_of_ble_eq_true rfl)) (wr := w8 ++ [aL E oa 1 of_]) rfl (fun r w hp => ?_)
  obtain ⟨v, rfl⟩ := hr6 r w hp
  refine V.cast (st' := [.long v]) (ws' := w8 ++ ([aL E oa 1 of_] ++ w)) rfl rfl (List.append_assoc _ _ _) ?_
  refine v_aload_n X dL_law_1491 rfl 2 rfl ?_
  refine v_aload_n X dL_law_1492 rfl 4 rfl ?_
  refine v_iload X dL_law_1493 0 rfl ?_
  refine v_iconst X dL_law_1495 (v := nI 1) (by decide) ?_
  refine v_iadd X dL_law_1496 ?_
  refine v_eqi (x' := nI (i + 1)) (nI_add _ _) ?_
  refine v_sld X S dL_law_1497 (j := (i + 1)) (by omega) (by omega) ?_
  refine v_aload_n X dL_law_1498 rfl 4 rfl ?_
  refine v_iload X dL_law_1499 0 rfl ?_
  refine v_iconst X dL_law_1501 (v := nI 2) (by decide) ?_
  refine v_iadd X dL_law_1502 ?_
  refine v_eqi (x' := nI (i + 2)) (nI_add _ _) ?_
  refine v_sld X S dL_law_1503 (j := (i + 2)) (by omega) (by omega) ?_
  refine v_b01 X dL_law_1504 dL_law_1507 dL_law_1508 dL_law_1511 ?_
  refine v_nwP X (rn_V X k_X8_freeOdds ml_L_192 dL_law_1512 h8 rfl j8 hj8 kcX8.1 (by decide) (by decide) (by omega) (by omega) (Nat.le_of_ble_eq_true rfl)) (wr := [aL E oa 1 of_] ++ w) rfl (fun r8 w9 hp8 => ?_)
  obtain ⟨er, hI⟩ := hcm _ _ _ _ hp hp8
  subst er
  refine V.cast (st' := [.long v, .long v]) (ws' := ([aL E oa 1 of_] ++ w) ++ w9) rfl rfl rfl ?_
  refine v_lcmp X dL_law_1515 ?_
  refine v_ifL_eq X dL_law_1516 (tgt := 1906) (by decide) (fun _ => ?_) (fun h9 => absurd rfl h9)
  refine V_perm (pmz _ _ _) ?_
  exact V_wid (by omega) (by omega) (ih w w9 of_ hI)
set_option maxRecDepth 100000 in
set_option maxHeartbeats 2000000 in
theorem cs_mean (l : Launch) (E : Et) (Z : Zt) (b L oa x k i kc ns_ : Nat) (xs : Nat → Int32) (of_ : Nat → Int64) (w6 w8 : va_W) (X : Cx E l 40 601024 7293034 Z cL_law 7 yL_law (some .boolean)) (S : SC Z b L xs) (hL : L ≤ 3072) (hi : i + 6 ≤ L) (hk : kc + 20 ≤ 601024) (hn : ns_ + 200 ≤ 7293034) (hv : INV E x k w6 w8) (ih : ∀ (v6 v8 : va_W) (o9 : Nat → Int64), INV E x k v6 v8 → V E Z 1906 [(4, .int (nI i)), (3, .ref oa), (2, .ref k), (1, .ref x), (0, .ref b)] [] (v6 ++ (v8 ++ [aL E oa 1 o9])) (kc + 20) (ns_ + 200)) : V E Z 1521 [(4, .int (nI i)), (3, .ref oa), (2, .ref k), (1, .ref x), (0, .ref b)] [] (w6 ++ (w8 ++ [aL E oa 1 of_])) kc ns_ := by
  obtain ⟨j6, fs6, hj6⟩ := iv6 hv
  obtain ⟨j8, fs8, hj8⟩ := iv8 hv
  refine v_aload_n X dL_law_1521 rfl 3 rfl ?_
  refine v_aload_n X dL_law_1522 rfl 4 rfl ?_
  refine v_iload X dL_law_1523 0 rfl ?_
  refine v_iconst X dL_law_1525 (v := nI 1) (by decide) ?_
  refine v_iadd X dL_law_1526 ?_
  refine v_eqi (x' := nI (i + 1)) (nI_add _ _) ?_
  refine v_sld X S dL_law_1527 (j := (i + 1)) (by omega) (by omega) ?_
  refine v_aload_n X dL_law_1528 rfl 4 rfl ?_
  refine v_iload X dL_law_1529 0 rfl ?_
  refine v_iconst X dL_law_1531 (v := nI 2) (by decide) ?_
  refine v_iadd X dL_law_1532 ?_
  refine v_eqi (x' := nI (i + 2)) (nI_add _ _) ?_
  refine v_sld X S dL_law_1533 (j := (i + 2)) (by omega) (by omega) ?_
  refine v_b01 X dL_law_1534 dL_law_1537 dL_law_1538 dL_law_1541 ?_
  obtain ⟨P6, P8, h6, h8, hr6, hcm⟩ := op_mean l E x k (xs (i + 1)) (decide (¬ xs (i + 2) = 0)) w6 w8 hv
  refine v_nwP X (rn_V X k_X6_mean ml_L_193 dL_law_1542 h6 rfl j6 hj6 kcX6.1 (by decide) (by decide) (by omega) (by omega) (Nat.le_of_ble_eq_true rfl)) (wr := w8 ++ [aL E oa 1 of_]) rfl (fun r w hp => ?_)
  obtain ⟨v, rfl⟩ := hr6 r w hp
  refine V.cast (st' := [.long v]) (ws' := w8 ++ ([aL E oa 1 of_] ++ w)) rfl rfl (List.append_assoc _ _ _) ?_
  refine v_aload_n X dL_law_1545 rfl 2 rfl ?_
  refine v_aload_n X dL_law_1546 rfl 4 rfl ?_
  refine v_iload X dL_law_1547 0 rfl ?_
  refine v_iconst X dL_law_1549 (v := nI 1) (by decide) ?_
  refine v_iadd X dL_law_1550 ?_
  refine v_eqi (x' := nI (i + 1)) (nI_add _ _) ?_
  refine v_sld X S dL_law_1551 (j := (i + 1)) (by omega) (by omega) ?_
  refine v_aload_n X dL_law_1552 rfl 4 rfl ?_
  refine v_iload X dL_law_1553 0 rfl ?_
  refine v_iconst X dL_law_1555 (v := nI 2) (by decide) ?_
  refine v_iadd X dL_law_1556 ?_
  refine v_eqi (x' := nI (i + 2)) (nI_add _ _) ?_
  refine v_sld X S dL_law_1557 (j := (i + 2)) (by omega) (by omega) ?_
  refine v_b01 X dL_law_1558 dL_law_1561 dL_law_1562 dL_law_1565 ?_
  refine v_nwP X (rn_V X k_X8_mean ml_L_196 dL_law_1566 h8 rfl j8 hj8 kcX8.1 (by decide) (by decide) (by omega) (by omega) (Nat.le_of_ble_eq_true rfl)) (wr := [aL E oa 1 of_] ++ w) rfl (fun r8 w9 hp8 => ?_)
  obtain ⟨er, hI⟩ := hcm _ _ _ _ hp hp8
  subst er
  refine V.cast (st' := [.long v, .long v]) (ws' := ([aL E oa 1 of_] ++ w) ++ w9) rfl rfl rfl ?_
  refine v_lcmp X dL_law_1569 ?_
  refine v_ifL_eq X dL_law_1570 (tgt := 1906) (by decide) (fun _ => ?_) (fun h9 => absurd rfl h9)
  refine V_perm (pmz _ _ _) ?_
  exact V_wid (by omega) (by omega) (ih w w9 of_ hI)
set_option maxRecDepth 100000 in
set_option maxHeartbeats 2000000 in
theorem cs_rained (l : Launch) (E : Et) (Z : Zt) (b L oa x k i kc ns_ : Nat) (xs : Nat → Int32) (of_ : Nat → Int64) (w6 w8 : va_W) (X : Cx E l 40 601024 7293034 Z cL_law 7 yL_law (some .boolean)) (S : SC Z b L xs) (hL : L ≤ 3072) (hi : i + 6 ≤ L) (hk : kc + 20 ≤ 601024) (hn : ns_ + 200 ≤ 7293034) (hv : INV E x k w6 w8) (ih : ∀ (v6 v8 : va_W) (o9 : Nat → Int64), INV E x k v6 v8 → V E Z 1906 [(4, .int (nI i)), (3, .ref oa), (2, .ref k), (1, .ref x), (0, .ref b)] [] (v6 ++ (v8 ++ [aL E oa 1 o9])) (kc + 20) (ns_ + 200)) : V E Z 1575 [(4, .int (nI i)), (3, .ref oa), (2, .ref k), (1, .ref x), (0, .ref b)] [] (w6 ++ (w8 ++ [aL E oa 1 of_])) kc ns_ := by
  obtain ⟨j6, fs6, hj6⟩ := iv6 hv
  obtain ⟨j8, fs8, hj8⟩ := iv8 hv
  refine v_aload_n X dL_law_1575 rfl 3 rfl ?_
  refine v_aload_n X dL_law_1576 rfl 4 rfl ?_
  refine v_iload X dL_law_1577 0 rfl ?_
  refine v_iconst X dL_law_1579 (v := nI 1) (by decide) ?_
  refine v_iadd X dL_law_1580 ?_
  refine v_eqi (x' := nI (i + 1)) (nI_add _ _) ?_
  refine v_sld X S dL_law_1581 (j := (i + 1)) (by omega) (by omega) ?_
  refine v_aload_n X dL_law_1582 rfl 4 rfl ?_
  refine v_iload X dL_law_1583 0 rfl ?_
  refine v_iconst X dL_law_1585 (v := nI 2) (by decide) ?_
  refine v_iadd X dL_law_1586 ?_
  refine v_eqi (x' := nI (i + 2)) (nI_add _ _) ?_
  refine v_sld X S dL_law_1587 (j := (i + 2)) (by omega) (by omega) ?_
  obtain ⟨P6, P8, h6, h8, hr6, hcm⟩ := op_rained l E x k (xs (i + 1)) (xs (i + 2)) w6 w8 hv
  refine v_nwP X (rn_V X k_X6_rained ml_L_197 dL_law_1588 h6 rfl j6 hj6 kcX6.1 (by decide) (by decide) (by omega) (by omega) (Nat.le_of_ble_eq_true rfl)) (wr := w8 ++ [aL E oa 1 of_]) rfl (fun r w hp => ?_)
  obtain ⟨v, rfl⟩ := hr6 r w hp
  refine V.cast (st' := [.int v]) (ws' := w8 ++ ([aL E oa 1 of_] ++ w)) rfl rfl (List.append_assoc _ _ _) ?_
  refine v_aload_n X dL_law_1591 rfl 2 rfl ?_
  refine v_aload_n X dL_law_1592 rfl 4 rfl ?_
  refine v_iload X dL_law_1593 0 rfl ?_
  refine v_iconst X dL_law_1595 (v := nI 1) (by decide) ?_
  refine v_iadd X dL_law_1596 ?_
  refine v_eqi (x' := nI (i + 1)) (nI_add _ _) ?_
  refine v_sld X S dL_law_1597 (j := (i + 1)) (by omega) (by omega) ?_
  refine v_aload_n X dL_law_1598 rfl 4 rfl ?_
  refine v_iload X dL_law_1599 0 rfl ?_
  refine v_iconst X dL_law_1601 (v := nI 2) (by decide) ?_
  refine v_iadd X dL_law_1602 ?_
  refine v_eqi (x' := nI (i + 2)) (nI_add _ _) ?_
  refine v_sld X S dL_law_1603 (j := (i + 2)) (by omega) (by omega) ?_
  refine v_nwP X (rn_V X k_X8_rained ml_L_200 dL_law_1604 h8 rfl j8 hj8 kcX8.1 (by decide) (by decide) (by omega) (by omega) (Nat.le_of_ble_eq_true rfl)) (wr := [aL E oa 1 of_] ++ w) rfl (fun r8 w9 hp8 => ?_)
  obtain ⟨er, hI⟩ := hcm _ _ _ _ hp hp8
  subst er
  refine V.cast (st' := [.int v, .int v]) (ws' := ([aL E oa 1 of_] ++ w) ++ w9) rfl rfl rfl ?_
  refine v_icmp_eq X dL_law_1607 (tgt := 1906) (by decide) (fun _ => ?_) (fun h9 => absurd rfl h9)
  refine V_perm (pmz _ _ _) ?_
  exact V_wid (by omega) (by omega) (ih w w9 of_ hI)
set_option maxRecDepth 100000 in
set_option maxHeartbeats 2000000 in
theorem cs_freeBy (l : Launch) (E : Et) (Z : Zt) (b L oa x k i kc ns_ : Nat) (xs : Nat → Int32) (of_ : Nat → Int64) (w6 w8 : va_W) (X : Cx E l 40 601024 7293034 Z cL_law 7 yL_law (some .boolean)) (S : SC Z b L xs) (hL : L ≤ 3072) (hi : i + 6 ≤ L) (hk : kc + 20 ≤ 601024) (hn : ns_ + 200 ≤ 7293034) (hv : INV E x k w6 w8) (ih : ∀ (v6 v8 : va_W) (o9 : Nat → Int64), INV E x k v6 v8 → V E Z 1906 [(4, .int (nI i)), (3, .ref oa), (2, .ref k), (1, .ref x), (0, .ref b)] [] (v6 ++ (v8 ++ [aL E oa 1 o9])) (kc + 20) (ns_ + 200)) : V E Z 1612 [(4, .int (nI i)), (3, .ref oa), (2, .ref k), (1, .ref x), (0, .ref b)] [] (w6 ++ (w8 ++ [aL E oa 1 of_])) kc ns_ := by
  obtain ⟨j6, fs6, hj6⟩ := iv6 hv
  obtain ⟨j8, fs8, hj8⟩ := iv8 hv
  refine v_aload_n X dL_law_1612 rfl 3 rfl ?_
  refine v_aload_n X dL_law_1613 rfl 4 rfl ?_
  refine v_iload X dL_law_1614 0 rfl ?_
  refine v_iconst X dL_law_1616 (v := nI 1) (by decide) ?_
  refine v_iadd X dL_law_1617 ?_
  refine v_eqi (x' := nI (i + 1)) (nI_add _ _) ?_
  refine v_sld X S dL_law_1618 (j := (i + 1)) (by omega) (by omega) ?_
  refine v_aload_n X dL_law_1619 rfl 4 rfl ?_
  refine v_iload X dL_law_1620 0 rfl ?_
  refine v_iconst X dL_law_1622 (v := nI 2) (by decide) ?_
  refine v_iadd X dL_law_1623 ?_
  refine v_eqi (x' := nI (i + 2)) (nI_add _ _) ?_
  refine v_sld X S dL_law_1624 (j := (i + 2)) (by omega) (by omega) ?_
  refine v_aload_n X dL_law_1625 rfl 4 rfl ?_
  refine v_iload X dL_law_1626 0 rfl ?_
  refine v_iconst X dL_law_1628 (v := nI 3) (by decide) ?_
  refine v_iadd X dL_law_1629 ?_
  refine v_eqi (x' := nI (i + 3)) (nI_add _ _) ?_
  refine v_sld X S dL_law_1630 (j := (i + 3)) (by omega) (by omega) ?_
  obtain ⟨P6, P8, h6, h8, hr6, hcm⟩ := op_freeBy l E x k (xs (i + 1)) (xs (i + 2)) (xs (i + 3)) w6 w8 hv
  refine v_nwP X (rn_V X k_X6_freeBy ml_L_201 dL_law_1631 h6 rfl j6 hj6 kcX6.1 (by decide) (by decide) (by omega) (by omega) (Nat.le_of_ble_eq_true rfl)) (wr := w8 ++ [aL E oa 1 of_]) rfl (fun r w hp => ?_)
  obtain ⟨v, rfl⟩ := hr6 r w hp
  refine V.cast (st' := [.int v]) (ws' := w8 ++ ([aL E oa 1 of_] ++ w)) rfl rfl (List.append_assoc _ _ _) ?_
  refine v_aload_n X dL_law_1634 rfl 2 rfl ?_
  refine v_aload_n X dL_law_1635 rfl 4 rfl ?_
  refine v_iload X dL_law_1636 0 rfl ?_
  refine v_iconst X dL_law_1638 (v := nI 1) (by decide) ?_
  refine v_iadd X dL_law_1639 ?_
  refine v_eqi (x' := nI (i + 1)) (nI_add _ _) ?_
  refine v_sld X S dL_law_1640 (j := (i + 1)) (by omega) (by omega) ?_
  refine v_aload_n X dL_law_1641 rfl 4 rfl ?_
  refine v_iload X dL_law_1642 0 rfl ?_
  refine v_iconst X dL_law_1644 (v := nI 2) (by decide) ?_
  refine v_iadd X dL_law_1645 ?_
  refine v_eqi (x' := nI (i + 2)) (nI_add _ _) ?_
  refine v_sld X S dL_law_1646 (j := (i + 2)) (by omega) (by omega) ?_
  refine v_aload_n X dL_law_1647 rfl 4 rfl ?_
  refine v_iload X dL_law_1648 0 rfl ?_
  refine v_iconst X dL_law_1650 (v := nI 3) (by decide) ?_
  refine v_iadd X dL_law_1651 ?_
  refine v_eqi (x' := nI (i + 3)) (nI_add _ _) ?_
  refine v_sld X S dL_law_1652 (j := (i + 3)) (by omega) (by omega) ?_
  refine v_nwP X (rn_V X k_X8_freeBy ml_L_205 dL_law_1653 h8 rfl j8 hj8 kcX8.1 (by decide) (by decide) (by omega) (by omega) (Nat.le_of_ble_eq_true rfl)) (wr := [aL E oa 1 of_] ++ w) rfl (fun r8 w9 hp8 => ?_)
  obtain ⟨er, hI⟩ := hcm _ _ _ _ hp hp8
  subst er
  refine V.cast (st' := [.int v, .int v]) (ws' := ([aL E oa 1 of_] ++ w) ++ w9) rfl rfl rfl ?_
  refine v_icmp_eq X dL_law_1656 (tgt := 1906) (by decide) (fun _ => ?_) (fun h9 => absurd rfl h9)
  refine V_perm (pmz _ _ _) ?_
  exact V_wid (by omega) (by omega) (ih w w9 of_ hI)
set_option maxRecDepth 100000 in
set_option maxHeartbeats 2000000 in
theorem cs_day (l : Launch) (E : Et) (Z : Zt) (b L oa x k i kc ns_ : Nat) (xs : Nat → Int32) (of_ : Nat → Int64) (w6 w8 : va_W) (X : Cx E l 40 601024 7293034 Z cL_law 7 yL_law (some .boolean)) (S : SC Z b L xs) (hL : L ≤ 3072) (hi : i + 6 ≤ L) (hk : kc + 20 ≤ 601024) (hn : ns_ + 200 ≤ 7293034) (hv : INV E x k w6 w8) (ih : ∀ (v6 v8 : va_W) (o9 : Nat → Int64), INV E x k v6 v8 → V E Z 1906 [(4, .int (nI i)), (3, .ref oa), (2, .ref k), (1, .ref x), (0, .ref b)] [] (v6 ++ (v8 ++ [aL E oa 1 o9])) (kc + 20) (ns_ + 200)) : V E Z 1661 [(4, .int (nI i)), (3, .ref oa), (2, .ref k), (1, .ref x), (0, .ref b)] [] (w6 ++ (w8 ++ [aL E oa 1 of_])) kc ns_ := by
  obtain ⟨j6, fs6, hj6⟩ := iv6 hv
  obtain ⟨j8, fs8, hj8⟩ := iv8 hv
  refine v_aload_n X dL_law_1661 rfl 3 rfl ?_
  obtain ⟨P6, P8, h6, h8, hr6, hcm⟩ := op_day l E x k  w6 w8 hv
  refine v_nwP X (rn_V X k_X6_day ml_L_206 dL_law_1662 h6 rfl j6 hj6 kcX6.1 (by decide) (by decide) (by omega) (by omega) (Nat.le_of_ble_eq_true rfl)) (wr := w8 ++ [aL E oa 1 of_]) rfl (fun r w hp => ?_)
  obtain ⟨v, rfl⟩ := hr6 r w hp
  refine V.cast (st' := [.int v]) (ws' := w8 ++ ([aL E oa 1 of_] ++ w)) rfl rfl (List.append_assoc _ _ _) ?_
  refine v_aload_n X dL_law_1665 rfl 2 rfl ?_
  refine v_nwP X (rn_V X k_X8_day ml_L_209 dL_law_1666 h8 rfl j8 hj8 kcX8.1 (by decide) (by decide) (by omega) (by omega) (Nat.le_of_ble_eq_true rfl)) (wr := [aL E oa 1 of_] ++ w) rfl (fun r8 w9 hp8 => ?_)
  obtain ⟨er, hI⟩ := hcm _ _ _ _ hp hp8
  subst er
  refine V.cast (st' := [.int v, .int v]) (ws' := ([aL E oa 1 of_] ++ w) ++ w9) rfl rfl rfl ?_
  refine v_icmp_eq X dL_law_1669 (tgt := 1906) (by decide) (fun _ => ?_) (fun h9 => absurd rfl h9)
  refine V_perm (pmz _ _ _) ?_
  exact V_wid (by omega) (by omega) (ih w w9 of_ hI)
set_option maxRecDepth 100000 in
set_option maxHeartbeats 2000000 in
theorem cs_press (l : Launch) (E : Et) (Z : Zt) (b L oa x k i kc ns_ : Nat) (xs : Nat → Int32) (of_ : Nat → Int64) (w6 w8 : va_W) (X : Cx E l 40 601024 7293034 Z cL_law 7 yL_law (some .boolean)) (S : SC Z b L xs) (hL : L ≤ 3072) (hi : i + 6 ≤ L) (hk : kc + 20 ≤ 601024) (hn : ns_ + 200 ≤ 7293034) (hv : INV E x k w6 w8) (ih : ∀ (v6 v8 : va_W) (o9 : Nat → Int64), INV E x k v6 v8 → V E Z 1906 [(4, .int (nI i)), (3, .ref oa), (2, .ref k), (1, .ref x), (0, .ref b)] [] (v6 ++ (v8 ++ [aL E oa 1 o9])) (kc + 20) (ns_ + 200)) : V E Z 1674 [(4, .int (nI i)), (3, .ref oa), (2, .ref k), (1, .ref x), (0, .ref b)] [] (w6 ++ (w8 ++ [aL E oa 1 of_])) kc ns_ := by
  obtain ⟨j6, fs6, hj6⟩ := iv6 hv
  obtain ⟨j8, fs8, hj8⟩ := iv8 hv
  refine v_aload_n X dL_law_1674 rfl 3 rfl ?_
  refine v_aload_n X dL_law_1675 rfl 4 rfl ?_
  refine v_iload X dL_law_1676 0 rfl ?_
  refine v_iconst X dL_law_1678 (v := nI 1) (by decide) ?_
  refine v_iadd X dL_law_1679 ?_
  refine v_eqi (x' := nI (i + 1)) (nI_add _ _) ?_
  refine v_sld X S dL_law_1680 (j := (i + 1)) (by omega) (by omega) ?_
  refine v_aload_n X dL_law_1681 rfl 4 rfl ?_
  refine v_iload X dL_law_1682 0 rfl ?_
  refine v_iconst X dL_law_1684 (v := nI 2) (by decide) ?_
  refine v_iadd X dL_law_1685 ?_
  refine v_eqi (x' := nI (i + 2)) (nI_add _ _) ?_
  refine v_sld X S dL_law_1686 (j := (i + 2)) (by omega) (by omega) ?_
  obtain ⟨P6, P8, h6, h8, hr6, hcm⟩ := op_press l E x k (xs (i + 1)) (xs (i + 2)) w6 w8 hv
  refine v_nwP X (rn_V X k_X6_press ml_L_210 dL_law_1687 h6 rfl j6 hj6 kcX6.1 (by decide) (by decide) (by omega) (by omega) (Nat.le_of_ble_eq_true rfl)) (wr := w8 ++ [aL E oa 1 of_]) rfl (fun r w hp => ?_)
  obtain ⟨v, rfl⟩ := hr6 r w hp
  refine V.cast (st' := [.int v]) (ws' := w8 ++ ([aL E oa 1 of_] ++ w)) rfl rfl (List.append_assoc _ _ _) ?_
  refine v_aload_n X dL_law_1690 rfl 2 rfl ?_
  refine v_aload_n X dL_law_1691 rfl 4 rfl ?_
  refine v_iload X dL_law_1692 0 rfl ?_
  refine v_iconst X dL_law_1694 (v := nI 1) (by decide) ?_
  refine v_iadd X dL_law_1695 ?_
  refine v_eqi (x' := nI (i + 1)) (nI_add _ _) ?_
  refine v_sld X S dL_law_1696 (j := (i + 1)) (by omega) (by omega) ?_
  refine v_aload_n X dL_law_1697 rfl 4 rfl ?_
  refine v_iload X dL_law_1698 0 rfl ?_
  refine v_iconst X dL_law_1700 (v := nI 2) (by decide) ?_
  refine v_iadd X dL_law_1701 ?_
  refine v_eqi (x' := nI (i + 2)) (nI_add _ _) ?_
  refine v_sld X S dL_law_1702 (j := (i + 2)) (by omega) (by omega) ?_
  refine v_nwP X (rn_V X k_X8_press ml_L_213 dL_law_1703 h8 rfl j8 hj8 kcX8.1 (by decide) (by decide) (by omega) (by omega) (Nat.le_of_ble_eq_true rfl)) (wr := [aL E oa 1 of_] ++ w) rfl (fun r8 w9 hp8 => ?_)
  obtain ⟨er, hI⟩ := hcm _ _ _ _ hp hp8
  subst er
  refine V.cast (st' := [.int v, .int v]) (ws' := ([aL E oa 1 of_] ++ w) ++ w9) rfl rfl rfl ?_
  refine v_icmp_eq X dL_law_1706 (tgt := 1906) (by decide) (fun _ => ?_) (fun h9 => absurd rfl h9)
  refine V_perm (pmz _ _ _) ?_
  exact V_wid (by omega) (by omega) (ih w w9 of_ hI)
set_option maxRecDepth 100000 in
set_option maxHeartbeats 2000000 in
theorem cs_wash (l : Launch) (E : Et) (Z : Zt) (b L oa x k i kc ns_ : Nat) (xs : Nat → Int32) (of_ : Nat → Int64) (w6 w8 : va_W) (X : Cx E l 40 601024 7293034 Z cL_law 7 yL_law (some .boolean)) (S : SC Z b L xs) (hL : L ≤ 3072) (hi : i + 6 ≤ L) (hk : kc + 20 ≤ 601024) (hn : ns_ + 200 ≤ 7293034) (hv : INV E x k w6 w8) (ih : ∀ (v6 v8 : va_W) (o9 : Nat → Int64), INV E x k v6 v8 → V E Z 1906 [(4, .int (nI i)), (3, .ref oa), (2, .ref k), (1, .ref x), (0, .ref b)] [] (v6 ++ (v8 ++ [aL E oa 1 o9])) (kc + 20) (ns_ + 200)) : V E Z 1711 [(4, .int (nI i)), (3, .ref oa), (2, .ref k), (1, .ref x), (0, .ref b)] [] (w6 ++ (w8 ++ [aL E oa 1 of_])) kc ns_ := by
  obtain ⟨j6, fs6, hj6⟩ := iv6 hv
  obtain ⟨j8, fs8, hj8⟩ := iv8 hv
  refine v_aload_n X dL_law_1711 rfl 3 rfl ?_
  refine v_aload_n X dL_law_1712 rfl 4 rfl ?_
  refine v_iload X dL_law_1713 0 rfl ?_
  refine v_iconst X dL_law_1715 (v := nI 1) (by decide) ?_
  refine v_iadd X dL_law_1716 ?_
  refine v_eqi (x' := nI (i + 1)) (nI_add _ _) ?_
  refine v_sld X S dL_law_1717 (j := (i + 1)) (by omega) (by omega) ?_
  obtain ⟨P6, P8, h6, h8, hr6, hcm⟩ := op_wash l E x k (xs (i + 1)) w6 w8 hv
  refine v_nwP X (rn_V X k_X6_wash ml_L_214 dL_law_1718 h6 rfl j6 hj6 kcX6.1 (by decide) (by decide) (by omega) (by omega) (Nat.le_of_ble_eq_true rfl)) (wr := w8 ++ [aL E oa 1 of_]) rfl (fun r w hp => ?_)
  obtain ⟨v, rfl⟩ := hr6 r w hp
  refine V.cast (st' := [.int v]) (ws' := w8 ++ ([aL E oa 1 of_] ++ w)) rfl rfl (List.append_assoc _ _ _) ?_
  refine v_aload_n X dL_law_1721 rfl 2 rfl ?_
  refine v_aload_n X dL_law_1722 rfl 4 rfl ?_
  refine v_iload X dL_law_1723 0 rfl ?_
  refine v_iconst X dL_law_1725 (v := nI 1) (by decide) ?_
  refine v_iadd X dL_law_1726 ?_
  refine v_eqi (x' := nI (i + 1)) (nI_add _ _) ?_
  refine v_sld X S dL_law_1727 (j := (i + 1)) (by omega) (by omega) ?_
  refine v_nwP X (rn_V X k_X8_wash ml_L_218 dL_law_1728 h8 rfl j8 hj8 kcX8.1 (by decide) (by decide) (by omega) (by omega) (Nat.le_of_ble_eq_true rfl)) (wr := [aL E oa 1 of_] ++ w) rfl (fun r8 w9 hp8 => ?_)
  obtain ⟨er, hI⟩ := hcm _ _ _ _ hp hp8
  subst er
  refine V.cast (st' := [.int v, .int v]) (ws' := ([aL E oa 1 of_] ++ w) ++ w9) rfl rfl rfl ?_
  refine v_icmp_eq X dL_law_1731 (tgt := 1906) (by decide) (fun _ => ?_) (fun h9 => absurd rfl h9)
  refine V_perm (pmz _ _ _) ?_
  exact V_wid (by omega) (by omega) (ih w w9 of_ hI)
set_option maxRecDepth 100000 in
set_option maxHeartbeats 2000000 in
theorem cs_turn (l : Launch) (E : Et) (Z : Zt) (b L oa x k i kc ns_ : Nat) (xs : Nat → Int32) (of_ : Nat → Int64) (w6 w8 : va_W) (X : Cx E l 40 601024 7293034 Z cL_law 7 yL_law (some .boolean)) (S : SC Z b L xs) (hL : L ≤ 3072) (hi : i + 6 ≤ L) (hk : kc + 20 ≤ 601024) (hn : ns_ + 200 ≤ 7293034) (hv : INV E x k w6 w8) (ih : ∀ (v6 v8 : va_W) (o9 : Nat → Int64), INV E x k v6 v8 → V E Z 1906 [(4, .int (nI i)), (3, .ref oa), (2, .ref k), (1, .ref x), (0, .ref b)] [] (v6 ++ (v8 ++ [aL E oa 1 o9])) (kc + 20) (ns_ + 200)) : V E Z 1736 [(4, .int (nI i)), (3, .ref oa), (2, .ref k), (1, .ref x), (0, .ref b)] [] (w6 ++ (w8 ++ [aL E oa 1 of_])) kc ns_ := by
  obtain ⟨j6, fs6, hj6⟩ := iv6 hv
  obtain ⟨j8, fs8, hj8⟩ := iv8 hv
  refine v_aload_n X dL_law_1736 rfl 3 rfl ?_
  refine v_aload_n X dL_law_1737 rfl 4 rfl ?_
  refine v_iload X dL_law_1738 0 rfl ?_
  refine v_iconst X dL_law_1740 (v := nI 1) (by decide) ?_
  refine v_iadd X dL_law_1741 ?_
  refine v_eqi (x' := nI (i + 1)) (nI_add _ _) ?_
  refine v_sld X S dL_law_1742 (j := (i + 1)) (by omega) (by omega) ?_
  obtain ⟨P6, P8, h6, h8, hr6, hcm⟩ := op_turn l E x k (xs (i + 1)) w6 w8 hv
  refine v_nwP X (rn_V X k_X6_turn ml_L_219 dL_law_1743 h6 rfl j6 hj6 kcX6.1 (by decide) (by decide) (by omega) (by omega) (Nat.le_of_ble_eq_true rfl)) (wr := w8 ++ [aL E oa 1 of_]) rfl (fun r w hp => ?_)
  obtain ⟨v, rfl⟩ := hr6 r w hp
  refine V.cast (st' := [.int v]) (ws' := w8 ++ ([aL E oa 1 of_] ++ w)) rfl rfl (List.append_assoc _ _ _) ?_
  refine v_aload_n X dL_law_1746 rfl 2 rfl ?_
  refine v_aload_n X dL_law_1747 rfl 4 rfl ?_
  refine v_iload X dL_law_1748 0 rfl ?_
  refine v_iconst X dL_law_1750 (v := nI 1) (by decide) ?_
  refine v_iadd X dL_law_1751 ?_
  refine v_eqi (x' := nI (i + 1)) (nI_add _ _) ?_
  refine v_sld X S dL_law_1752 (j := (i + 1)) (by omega) (by omega) ?_
  refine v_nwP X (rn_V X k_X8_turn ml_L_222 dL_law_1753 h8 rfl j8 hj8 kcX8.1 (by decide) (by decide) (by omega) (by omega) (Nat.le_of_ble_eq_true rfl)) (wr := [aL E oa 1 of_] ++ w) rfl (fun r8 w9 hp8 => ?_)
  obtain ⟨er, hI⟩ := hcm _ _ _ _ hp hp8
  subst er
  refine V.cast (st' := [.int v, .int v]) (ws' := ([aL E oa 1 of_] ++ w) ++ w9) rfl rfl rfl ?_
  refine v_icmp_eq X dL_law_1756 (tgt := 1906) (by decide) (fun _ => ?_) (fun h9 => absurd rfl h9)
  refine V_perm (pmz _ _ _) ?_
  exact V_wid (by omega) (by omega) (ih w w9 of_ hI)
set_option maxRecDepth 100000 in
set_option maxHeartbeats 2000000 in
theorem cs_undo (l : Launch) (E : Et) (Z : Zt) (b L oa x k i kc ns_ : Nat) (xs : Nat → Int32) (of_ : Nat → Int64) (w6 w8 : va_W) (X : Cx E l 40 601024 7293034 Z cL_law 7 yL_law (some .boolean)) (S : SC Z b L xs) (hL : L ≤ 3072) (hi : i + 6 ≤ L) (hk : kc + 20 ≤ 601024) (hn : ns_ + 200 ≤ 7293034) (hv : INV E x k w6 w8) (ih : ∀ (v6 v8 : va_W) (o9 : Nat → Int64), INV E x k v6 v8 → V E Z 1906 [(4, .int (nI i)), (3, .ref oa), (2, .ref k), (1, .ref x), (0, .ref b)] [] (v6 ++ (v8 ++ [aL E oa 1 o9])) (kc + 20) (ns_ + 200)) : V E Z 1761 [(4, .int (nI i)), (3, .ref oa), (2, .ref k), (1, .ref x), (0, .ref b)] [] (w6 ++ (w8 ++ [aL E oa 1 of_])) kc ns_ := by
  obtain ⟨j6, fs6, hj6⟩ := iv6 hv
  obtain ⟨j8, fs8, hj8⟩ := iv8 hv
  refine v_aload_n X dL_law_1761 rfl 3 rfl ?_
  obtain ⟨P6, P8, h6, h8, hr6, hcm⟩ := op_undo l E x k  w6 w8 hv
  refine v_nwP X (rn_V X k_X6_undo ml_L_223 dL_law_1762 h6 rfl j6 hj6 kcX6.1 (by decide) (by decide) (by omega) (by omega) (Nat.le_of_ble_eq_true rfl)) (wr := w8 ++ [aL E oa 1 of_]) rfl (fun r w hp => ?_)
  obtain ⟨v, rfl⟩ := hr6 r w hp
  refine V.cast (st' := [.int v]) (ws' := w8 ++ ([aL E oa 1 of_] ++ w)) rfl rfl (List.append_assoc _ _ _) ?_
  refine v_aload_n X dL_law_1765 rfl 2 rfl ?_
  refine v_nwP X (rn_V X k_X8_undo ml_L_227 dL_law_1766 h8 rfl j8 hj8 kcX8.1 (by decide) (by decide) (by omega) (by omega) (Nat.le_of_ble_eq_true rfl)) (wr := [aL E oa 1 of_] ++ w) rfl (fun r8 w9 hp8 => ?_)
  obtain ⟨er, hI⟩ := hcm _ _ _ _ hp hp8
  subst er
  refine V.cast (st' := [.int v, .int v]) (ws' := ([aL E oa 1 of_] ++ w) ++ w9) rfl rfl rfl ?_
  refine v_icmp_eq X dL_law_1769 (tgt := 1906) (by decide) (fun _ => ?_) (fun h9 => absurd rfl h9)
  refine V_perm (pmz _ _ _) ?_
  exact V_wid (by omega) (by omega) (ih w w9 of_ hI)
set_option maxRecDepth 100000 in
set_option maxHeartbeats 2000000 in
theorem cs_image (l : Launch) (E : Et) (Z : Zt) (b L oa x k i kc ns_ : Nat) (xs : Nat → Int32) (of_ : Nat → Int64) (w6 w8 : va_W) (X : Cx E l 40 601024 7293034 Z cL_law 7 yL_law (some .boolean)) (S : SC Z b L xs) (hL : L ≤ 3072) (hi : i + 6 ≤ L) (hk : kc + 20 ≤ 601024) (hn : ns_ + 200 ≤ 7293034) (hv : INV E x k w6 w8) (ih : ∀ (v6 v8 : va_W) (o9 : Nat → Int64), INV E x k v6 v8 → V E Z 1906 [(4, .int (nI i)), (3, .ref oa), (2, .ref k), (1, .ref x), (0, .ref b)] [] (v6 ++ (v8 ++ [aL E oa 1 o9])) (kc + 20) (ns_ + 200)) : V E Z 1774 [(4, .int (nI i)), (3, .ref oa), (2, .ref k), (1, .ref x), (0, .ref b)] [] (w6 ++ (w8 ++ [aL E oa 1 of_])) kc ns_ := by
  obtain ⟨j6, fs6, hj6⟩ := iv6 hv
  obtain ⟨j8, fs8, hj8⟩ := iv8 hv
  refine v_aload_n X dL_law_1774 rfl 3 rfl ?_
  obtain ⟨P6, P8, h6, h8, hr6, hcm⟩ := op_image l E x k  w6 w8 hv
  refine v_nwP X (rn_V X k_X6_image ml_L_228 dL_law_1775 h6 rfl j6 hj6 kcX6.1 (by decide) (by decide) (by omega) (by omega) (Nat.le_of_ble_eq_true rfl)) (wr := w8 ++ [aL E oa 1 of_]) rfl (fun r w hp => ?_)
  obtain ⟨v, rfl⟩ := hr6 r w hp
  refine V.cast (st' := [.int v]) (ws' := w8 ++ ([aL E oa 1 of_] ++ w)) rfl rfl (List.append_assoc _ _ _) ?_
  refine v_aload_n X dL_law_1778 rfl 2 rfl ?_
  refine v_nwP X (rn_V X k_X8_image ml_L_231 dL_law_1779 h8 rfl j8 hj8 kcX8.1 (by decide) (by decide) (by omega) (by omega) (Nat.le_of_ble_eq_true rfl)) (wr := [aL E oa 1 of_] ++ w) rfl (fun r8 w9 hp8 => ?_)
  obtain ⟨er, hI⟩ := hcm _ _ _ _ hp hp8
  subst er
  refine V.cast (st' := [.int v, .int v]) (ws' := ([aL E oa 1 of_] ++ w) ++ w9) rfl rfl rfl ?_
  refine v_icmp_eq X dL_law_1782 (tgt := 1906) (by decide) (fun _ => ?_) (fun h9 => absurd rfl h9)
  refine V_perm (pmz _ _ _) ?_
  exact V_wid (by omega) (by omega) (ih w w9 of_ hI)
set_option maxRecDepth 100000 in
set_option maxHeartbeats 2000000 in
theorem cs_back (l : Launch) (E : Et) (Z : Zt) (b L oa x k i kc ns_ : Nat) (xs : Nat → Int32) (of_ : Nat → Int64) (w6 w8 : va_W) (X : Cx E l 40 601024 7293034 Z cL_law 7 yL_law (some .boolean)) (S : SC Z b L xs) (hL : L ≤ 3072) (hi : i + 6 ≤ L) (hk : kc + 20 ≤ 601024) (hn : ns_ + 200 ≤ 7293034) (hv : INV E x k w6 w8) (ih : ∀ (v6 v8 : va_W) (o9 : Nat → Int64), INV E x k v6 v8 → V E Z 1906 [(4, .int (nI i)), (3, .ref oa), (2, .ref k), (1, .ref x), (0, .ref b)] [] (v6 ++ (v8 ++ [aL E oa 1 o9])) (kc + 20) (ns_ + 200)) : V E Z 1787 [(4, .int (nI i)), (3, .ref oa), (2, .ref k), (1, .ref x), (0, .ref b)] [] (w6 ++ (w8 ++ [aL E oa 1 of_])) kc ns_ := by
  obtain ⟨j6, fs6, hj6⟩ := iv6 hv
  obtain ⟨j8, fs8, hj8⟩ := iv8 hv
  refine v_aload_n X dL_law_1787 rfl 3 rfl ?_
  refine v_aload_n X dL_law_1788 rfl 4 rfl ?_
  refine v_iload X dL_law_1789 0 rfl ?_
  refine v_iconst X dL_law_1791 (v := nI 1) (by decide) ?_
  refine v_iadd X dL_law_1792 ?_
  refine v_eqi (x' := nI (i + 1)) (nI_add _ _) ?_
  refine v_sld X S dL_law_1793 (j := (i + 1)) (by omega) (by omega) ?_
  obtain ⟨P6, P8, h6, h8, hr6, hcm⟩ := op_back l E x k (xs (i + 1)) w6 w8 hv
  refine v_nwP X (rn_V X k_X6_back ml_L_232 dL_law_1794 h6 rfl j6 hj6 kcX6.1 (by decide) (by decide) (by omega) (by omega) (Nat.le_of_ble_eq_true rfl)) (wr := w8 ++ [aL E oa 1 of_]) rfl (fun r w hp => ?_)
  obtain ⟨v, rfl⟩ := hr6 r w hp
  refine V.cast (st' := [.int v]) (ws' := w8 ++ ([aL E oa 1 of_] ++ w)) rfl rfl (List.append_assoc _ _ _) ?_
  refine v_aload_n X dL_law_1797 rfl 2 rfl ?_
  refine v_aload_n X dL_law_1798 rfl 4 rfl ?_
  refine v_iload X dL_law_1799 0 rfl ?_
  refine v_iconst X dL_law_1801 (v := nI 1) (by decide) ?_
  refine v_iadd X dL_law_1802 ?_
  refine v_eqi (x' := nI (i + 1)) (nI_add _ _) ?_
  refine v_sld X S dL_law_1803 (j := (i + 1)) (by omega) (by omega) ?_
  refine v_nwP X (rn_V X k_X8_back ml_L_235 dL_law_1804 h8 rfl j8 hj8 kcX8.1 (by decide) (by decide) (by omega) (by omega) (Nat.le_of_ble_eq_true rfl)) (wr := [aL E oa 1 of_] ++ w) rfl (fun r8 w9 hp8 => ?_)
  obtain ⟨er, hI⟩ := hcm _ _ _ _ hp hp8
  subst er
  refine V.cast (st' := [.int v, .int v]) (ws' := ([aL E oa 1 of_] ++ w) ++ w9) rfl rfl rfl ?_
  refine v_icmp_eq X dL_law_1807 (tgt := 1906) (by decide) (fun _ => ?_) (fun h9 => absurd rfl h9)
  refine V_perm (pmz _ _ _) ?_
  exact V_wid (by omega) (by omega) (ih w w9 of_ hI)
set_option maxRecDepth 100000 in
set_option maxHeartbeats 2000000 in
theorem cs_size (l : Launch) (E : Et) (Z : Zt) (b L oa x k i kc ns_ : Nat) (xs : Nat → Int32) (of_ : Nat → Int64) (w6 w8 : va_W) (X : Cx E l 40 601024 7293034 Z cL_law 7 yL_law (some .boolean)) (S : SC Z b L xs) (hL : L ≤ 3072) (hi : i + 6 ≤ L) (hk : kc + 20 ≤ 601024) (hn : ns_ + 200 ≤ 7293034) (hv : INV E x k w6 w8) (ih : ∀ (v6 v8 : va_W) (o9 : Nat → Int64), INV E x k v6 v8 → V E Z 1906 [(4, .int (nI i)), (3, .ref oa), (2, .ref k), (1, .ref x), (0, .ref b)] [] (v6 ++ (v8 ++ [aL E oa 1 o9])) (kc + 20) (ns_ + 200)) : V E Z 1868 [(4, .int (nI i)), (3, .ref oa), (2, .ref k), (1, .ref x), (0, .ref b)] [] (w6 ++ (w8 ++ [aL E oa 1 of_])) kc ns_ := by
  obtain ⟨j6, fs6, hj6⟩ := iv6 hv
  obtain ⟨j8, fs8, hj8⟩ := iv8 hv
  refine v_aload_n X dL_law_1868 rfl 3 rfl ?_
  refine v_aload_n X dL_law_1869 rfl 4 rfl ?_
  refine v_iload X dL_law_1870 0 rfl ?_
  refine v_iconst X dL_law_1872 (v := nI 1) (by decide) ?_
  refine v_iadd X dL_law_1873 ?_
  refine v_eqi (x' := nI (i + 1)) (nI_add _ _) ?_
  refine v_sld X S dL_law_1874 (j := (i + 1)) (by omega) (by omega) ?_
  obtain ⟨P6, P8, h6, h8, hr6, hcm⟩ := op_size l E x k (xs (i + 1)) w6 w8 hv
  refine v_nwP X (rn_V X k_X6_size ml_L_245 dL_law_1875 h6 rfl j6 hj6 kcX6.1 (by decide) (by decide) (by omega) (by omega) (Nat.le_of_ble_eq_true rfl)) (wr := w8 ++ [aL E oa 1 of_]) rfl (fun r w hp => ?_)
  obtain ⟨v, rfl⟩ := hr6 r w hp
  refine V.cast (st' := [.int v]) (ws' := w8 ++ ([aL E oa 1 of_] ++ w)) rfl rfl (List.append_assoc _ _ _) ?_
  refine v_aload_n X dL_law_1878 rfl 2 rfl ?_
  refine v_aload_n X dL_law_1879 rfl 4 rfl ?_
  refine v_iload X dL_law_1880 0 rfl ?_
  refine v_iconst X dL_law_1882 (v := nI 1) (by decide) ?_
  refine v_iadd X dL_law_1883 ?_
  refine v_eqi (x' := nI (i + 1)) (nI_add _ _) ?_
  refine v_sld X S dL_law_1884 (j := (i + 1)) (by omega) (by omega) ?_
  refine v_nwP X (rn_V X k_X8_size ml_L_248 dL_law_1885 h8 rfl j8 hj8 kcX8.1 (by decide) (by decide) (by omega) (by omega) (Nat.le_of_ble_eq_true rfl)) (wr := [aL E oa 1 of_] ++ w) rfl (fun r8 w9 hp8 => ?_)
  obtain ⟨er, hI⟩ := hcm _ _ _ _ hp hp8
  subst er
  refine V.cast (st' := [.int v, .int v]) (ws' := ([aL E oa 1 of_] ++ w) ++ w9) rfl rfl rfl ?_
  refine v_icmp_eq X dL_law_1888 (tgt := 1906) (by decide) (fun _ => ?_) (fun h9 => absurd rfl h9)
  refine V_perm (pmz _ _ _) ?_
  exact V_wid (by omega) (by omega) (ih w w9 of_ hI)
set_option maxRecDepth 100000 in
set_option maxHeartbeats 2000000 in
theorem cs_trouble (l : Launch) (E : Et) (Z : Zt) (b L oa x k i kc ns_ : Nat) (xs : Nat → Int32) (of_ : Nat → Int64) (w6 w8 : va_W) (X : Cx E l 40 601024 7293034 Z cL_law 7 yL_law (some .boolean)) (S : SC Z b L xs) (hL : L ≤ 3072) (hi : i + 6 ≤ L) (hk : kc + 20 ≤ 601024) (hn : ns_ + 200 ≤ 7293034) (hv : INV E x k w6 w8) (ih : ∀ (v6 v8 : va_W) (o9 : Nat → Int64), INV E x k v6 v8 → V E Z 1906 [(4, .int (nI i)), (3, .ref oa), (2, .ref k), (1, .ref x), (0, .ref b)] [] (v6 ++ (v8 ++ [aL E oa 1 o9])) (kc + 20) (ns_ + 200)) : V E Z 1893 [(4, .int (nI i)), (3, .ref oa), (2, .ref k), (1, .ref x), (0, .ref b)] [] (w6 ++ (w8 ++ [aL E oa 1 of_])) kc ns_ := by
  obtain ⟨j6, fs6, hj6⟩ := iv6 hv
  obtain ⟨j8, fs8, hj8⟩ := iv8 hv
  refine v_aload_n X dL_law_1893 rfl 3 rfl ?_
  obtain ⟨P6, P8, h6, h8, hr6, hcm⟩ := op_trouble l E x k  w6 w8 hv
  refine v_nwP X (rn_V X k_X6_trouble ml_L_249 dL_law_1894 h6 rfl j6 hj6 kcX6.1 (by decide) (by decide) (by omega) (by omega) (Nat.le_of_ble_eq_true rfl)) (wr := w8 ++ [aL E oa 1 of_]) rfl (fun r w hp => ?_)
  obtain ⟨v, rfl⟩ := hr6 r w hp
  refine V.cast (st' := [.int v]) (ws' := w8 ++ ([aL E oa 1 of_] ++ w)) rfl rfl (List.append_assoc _ _ _) ?_
  refine v_aload_n X dL_law_1897 rfl 2 rfl ?_
  refine v_nwP X (rn_V X k_X8_trouble ml_L_252 dL_law_1898 h8 rfl j8 hj8 kcX8.1 (by decide) (by decide) (by omega) (by omega) (Nat.le_of_ble_eq_true rfl)) (wr := [aL E oa 1 of_] ++ w) rfl (fun r8 w9 hp8 => ?_)
  obtain ⟨er, hI⟩ := hcm _ _ _ _ hp hp8
  subst er
  refine V.cast (st' := [.int v, .int v]) (ws' := ([aL E oa 1 of_] ++ w) ++ w9) rfl rfl rfl ?_
  refine v_icmp_eq X dL_law_1901 (tgt := 1906) (by decide) (fun _ => ?_) (fun h9 => absurd rfl h9)
  refine V_perm (pmz _ _ _) ?_
  exact V_wid (by omega) (by omega) (ih w w9 of_ hI)
