set_option maxRecDepth 100000 in
set_option maxHeartbeats 4000000 in
theorem c_X3_init (l : Launch) (E : Et) (h : Nat)  : Ct l E yX3_init cX3_init 2 none 2 59 399 [.ref h] [ob h 3 [.null, .null, .int (nI 0), .int (nI 0), .int (nI 0)]] ((fun r w => (∃ (pq : Nat → Nat) (pa : Nat → Nat × Nat × Nat) (pb : Nat → Nat × Nat × Nat), w = ([ob h 3 [.ref (pq 0), .ref (pq 1), .int (nI 0), .int (nI 0), .int (nI 0)], aP E (pq 0) 16 (fun i => some (pa i).1), aP E (pq 1) 3 (fun i => some (pb i).1)] ++ seg E pa 16 pg0 ++ seg E pb 3 pg0) ∧ r = none))) := by
  refine Ct.intro (by decide +kernel) (Nat.le_of_ble_eq_true rfl) (lv := [(0, .ref h)]) rfl ?_
  intro Z X Y
  refine v_aload_n X dX3_init_0 rfl 0 rfl ?_
  refine v_oinit X oi_X3 oi_inst oi_code dX3_init_1 (by decide) (Nat.le_of_ble_eq_true rfl) ?_
  refine v_aload_n X dX3_init_4 rfl 0 rfl ?_
  refine v_bipush X dX3_init_5 (v := nI 16) (by decide) ?_
  refine v_newq X ck_X3_9 dX3_init_7 (by decide) (by omega) (by omega) (fun q7 => ?_)
  refine V.cast (ws' := [ob h 3 [.null, .null, .int (nI 0), .int (nI 0), .int (nI 0)], aP E q7 16 (fun _ => none)]) rfl rfl rfl ?_
  refine v_putF X kcX3 fl_X3_11 dX3_init_10 0 rfl (ws' := [ob h 3 [.ref q7, .null, .int (nI 0), .int (nI 0), .int (nI 0)], aP E q7 16 (fun _ => none)]) rfl rfl rfl rfl ?_
  refine v_aload_n X dX3_init_13 rfl 0 rfl ?_
  refine v_iconst X dX3_init_14 (v := nI 3) (by decide) ?_
  refine v_newq X ck_X3_9 dX3_init_15 (by decide) (by omega) (by omega) (fun q15 => ?_)
  refine V.cast (ws' := [ob h 3 [.ref q7, .null, .int (nI 0), .int (nI 0), .int (nI 0)], aP E q7 16 (fun _ => none), aP E q15 3 (fun _ => none)]) rfl rfl rfl ?_
  refine v_putF X kcX3 fl_X3_17 dX3_init_18 0 rfl (ws' := [ob h 3 [.ref q7, .ref q15, .int (nI 0), .int (nI 0), .int (nI 0)], aP E q7 16 (fun _ => none), aP E q15 3 (fun _ => none)]) rfl rfl rfl rfl ?_
  refine v_iconst X dX3_init_21 (v := nI 0) (by decide) ?_
  refine V.cast (ws' := ([ob h 3 [.ref q7, .ref q15, .int (nI 0), .int (nI 0), .int (nI 0)], aP E q7 16 (fun _ => none), aP E q15 3 (fun _ => none)] ++ seg E (fun _ => (0, 0, 0)) 0 pg0)) rfl rfl (List.append_nil _).symm ?_
  refine v_istore_n X dX3_init_22 rfl (by decide) (lv' := [(1, .int (nI 0)), (0, .ref h)]) rfl ?_
  have L23 : ∀ (j23 : Nat) (vi : Nat) (vf : Nat → Option Nat) (pa : Nat → Nat × Nat × Nat), (vi ≤ 16 ∧ ∀ i, i < vi → vf i = some (pa i).1) → 16 - vi < j23 → V E Z 23 [(0, .ref h), (1, .int (nI vi))] [] ([ob h 3 [.ref q7, .ref q15, .int (nI 0), .int (nI 0), .int (nI 0)], aP E q7 16 vf, aP E q15 3 (fun _ => none)] ++ seg E pa vi pg0) (2 + 3 * vi) (19 + 20 * vi) := by
    intro j23
    induction j23 with
    | zero => intro vi vf pa hI hM; exact absurd hM (Nat.not_lt_zero _)
    | succ j23 ih23 =>
      intro vi vf pa hI23 hM23
      obtain ⟨hc, hf⟩ := id hI23
      refine v_iload_n X dX3_init_23 rfl 1 rfl ?_
      refine v_bipush X dX3_init_24 (v := nI 16) (by decide) ?_
      refine v_icmpN_ge X dX3_init_26 (tgt := 48) (by decide) (by omega) (by decide) (fun h26 => ?_) (fun h26 => ?_)
      · obtain rfl : vi = 16 := by omega
        refine V.arP 1 rfl (g' := fun i => some (pa i).1) hf (ws' := ([ob h 3 [.ref q7, .ref q15, .int (nI 0), .int (nI 0), .int (nI 0)], aP E q7 16 (fun i => some (pa i).1), aP E q15 3 (fun _ => none)] ++ seg E pa 16 pg0)) rfl ?_
        refine V.cast (ws' := ([ob h 3 [.ref q7, .ref q15, .int (nI 0), .int (nI 0), .int (nI 0)], aP E q7 16 (fun i => some (pa i).1), aP E q15 3 (fun _ => none)] ++ seg E pa 16 pg0 ++ seg E (fun _ => (0, 0, 0)) 0 pg0)) rfl rfl (List.append_nil _).symm ?_
        refine v_iconst X dX3_init_48 (v := nI 0) (by decide) ?_
        refine v_istore_n X dX3_init_49 rfl (by decide) (lv' := [(1, .int (nI 0)), (0, .ref h)]) rfl ?_
        have L50 : ∀ (j50 : Nat) (vj : Nat) (vg : Nat → Option Nat) (pb : Nat → Nat × Nat × Nat), (vj ≤ 3 ∧ ∀ i, i < vj → vg i = some (pb i).1) → 3 - vj < j50 → V E Z 50 [(0, .ref h), (1, .int (nI vj))] [] ([ob h 3 [.ref q7, .ref q15, .int (nI 0), .int (nI 0), .int (nI 0)], aP E q7 16 (fun i => some (pa i).1), aP E q15 3 vg] ++ seg E pa 16 pg0 ++ seg E pb vj pg0) (50 + 3 * vj) (339 + 20 * vj) := by
          intro j50
          induction j50 with
          | zero => intro vj vg pb hI hM; exact absurd hM (Nat.not_lt_zero _)
          | succ j50 ih50 =>
            intro vj vg pb hI50 hM50
            obtain ⟨hc, hf⟩ := id hI50
            refine v_iload_n X dX3_init_50 rfl 1 rfl ?_
            refine v_iconst X dX3_init_51 (v := nI 3) (by decide) ?_
            refine v_icmpN_ge X dX3_init_52 (tgt := 74) (by decide) (by omega) (by decide) (fun h52 => ?_) (fun h52 => ?_)
            · obtain rfl : vj = 3 := by omega
              refine V.arP 2 rfl (g' := fun i => some (pb i).1) hf (ws' := ([ob h 3 [.ref q7, .ref q15, .int (nI 0), .int (nI 0), .int (nI 0)], aP E q7 16 (fun i => some (pa i).1), aP E q15 3 (fun i => some (pb i).1)] ++ seg E pa 16 pg0 ++ seg E pb 3 pg0)) rfl ?_
              exact v_vret X Y dX3_init_74 ⟨(vlst [q7, q15]), pa, pb, rfl, rfl⟩ (by omega) (by omega)
            · refine v_aload_n X dX3_init_55 rfl 0 rfl ?_
              refine v_get X kcX3 fl_X3_17 dX3_init_56 0 rfl rfl ?_
              refine v_iload_n X dX3_init_59 rfl 1 rfl ?_
              refine v_new X kcX2 ck_X3_9 it_X2 ii_X2 dX3_init_60 (fs := [.null, .null, .int (nI 0), .int (nI 0)]) dv_X2 (by omega) (by omega) (fun q60 => ?_)
              refine V_perm (pm2 _ _ _ _) ?_
              refine V.cast (ws' := ([ob h 3 [.ref q7, .ref q15, .int (nI 0), .int (nI 0), .int (nI 0)], aP E q7 16 (fun i => some (pa i).1), aP E q15 3 vg, ob q60 2 [.null, .null, .int (nI 0), .int (nI 0)]] ++ seg E pa 16 pg0 ++ seg E pb vj pg0)) rfl rfl rfl ?_
              refine v_dup X dX3_init_63 rfl ?_
              refine V.cast (ws' := (([ob h 3 [.ref q7, .ref q15, .int (nI 0), .int (nI 0), .int (nI 0)], aP E q7 16 (fun i => some (pa i).1), aP E q15 3 vg] ++ [ob q60 2 [.null, .null, .int (nI 0), .int (nI 0)]]) ++ seg E pa 16 pg0 ++ seg E pb vj pg0)) rfl rfl rfl ?_
              refine V_perm (pm4 _ _ _ _ ) ?_
              refine v_nwP X (rn_IN X k_X2_init ml_X3_20 dX3_init_64 (c_X2_init l E q60 ) rfl (by decide) (by decide) (by omega) (by omega) (Nat.le_of_ble_eq_true rfl)) (wr := ([ob h 3 [.ref q7, .ref q15, .int (nI 0), .int (nI 0), .int (nI 0)], aP E q7 16 (fun i => some (pa i).1), aP E q15 3 vg] ++ seg E pa 16 pg0 ++ seg E pb vj pg0)) rfl (fun r w1 hpo => ?_)
              obtain ⟨pi__64, pm__64, rfl, rfl⟩ := hpo
              refine V_perm (pm2 _ _ _ _) ?_
              refine V.cast (st' := [.ref q60, .int (nI vj), .ref q15]) (ws' := ([ob h 3 [.ref q7, .ref q15, .int (nI 0), .int (nI 0), .int (nI 0)], aP E q7 16 (fun i => some (pa i).1), aP E q15 3 vg, ob q60 2 [.ref pi__64, .ref pm__64, .int (nI 0), .int (nI 0)], aN E pi__64 8 (fun _ => 0), aI E pm__64 8 (fun _ => nI 0)] ++ seg E pa 16 pg0 ++ seg E pb vj pg0)) rfl rfl rfl ?_
              refine v_aast X dX3_init_67 2 3 rfl rfl (by omega) (by decide) (ws' := ([ob h 3 [.ref q7, .ref q15, .int (nI 0), .int (nI 0), .int (nI 0)], aP E q7 16 (fun i => some (pa i).1), aP E q15 3 (va_up vg vj (some q60)), ob q60 2 [.ref pi__64, .ref pm__64, .int (nI 0), .int (nI 0)], aN E pi__64 8 (fun _ => 0), aI E pm__64 8 (fun _ => nI 0)] ++ seg E pa 16 pg0 ++ seg E pb vj pg0)) rfl ?_
              refine V.cast (ws' := (([ob h 3 [.ref q7, .ref q15, .int (nI 0), .int (nI 0), .int (nI 0)], aP E q7 16 (fun i => some (pa i).1), aP E q15 3 (va_up vg vj (some q60))] ++ [ob q60 2 [.ref pi__64, .ref pm__64, .int (nI 0), .int (nI 0)], aN E pi__64 8 (fun _ => 0), aI E pm__64 8 (fun _ => nI 0)]) ++ seg E pa 16 pg0 ++ seg E pb vj pg0)) rfl rfl rfl ?_
              refine V_perm (pm2 _ _ _ _).symm ?_
              refine V.cast (ws' := ([ob h 3 [.ref q7, .ref q15, .int (nI 0), .int (nI 0), .int (nI 0)], aP E q7 16 (fun i => some (pa i).1), aP E q15 3 (va_up vg vj (some q60))] ++ seg E pa 16 pg0 ++ seg E (upA pb vj (q60, pi__64, pm__64)) (vj + 1) pg0)) rfl rfl (seg_add _ vj (q60, pi__64, pm__64)) ?_
              refine v_iinc X dX3_init_68 1 rfl (v := nI (vj + 1)) (nI_inc vj) (by decide) (lv' := [(1, .int (nI (vj + 1))), (0, .ref h)]) rfl ?_
              refine v_goto X dX3_init_71 (tgt := 50) (by decide) ?_
              refine V.lvs [1, 0] rfl ?_
              refine V_kn (k' := 50 + 3 * (vj + 1)) (n' := 339 + 20 * (vj + 1)) (by omega) (by omega) ?_
              exact ih50 (vj + 1) (va_up vg vj (some q60)) (upA pb vj (q60, pi__64, pm__64)) (⟨by omega, pa_up (q := (q60, pi__64, pm__64)) hf⟩) (by omega)
        refine V.lvs [1, 0] rfl ?_
        exact L50 _ 0 (fun _ => none) (fun _ => (0, 0, 0)) (⟨by omega, fun i hi => absurd hi (Nat.not_lt_zero i)⟩) (Nat.lt_succ_self _)
      · refine v_aload_n X dX3_init_29 rfl 0 rfl ?_
        refine v_get X kcX3 fl_X3_11 dX3_init_30 0 rfl rfl ?_
        refine v_iload_n X dX3_init_33 rfl 1 rfl ?_
        refine v_new X kcX2 ck_X3_9 it_X2 ii_X2 dX3_init_34 (fs := [.null, .null, .int (nI 0), .int (nI 0)]) dv_X2 (by omega) (by omega) (fun q34 => ?_)
        refine V_perm (pm1 _ _ _) ?_
        refine V.cast (ws' := ([ob h 3 [.ref q7, .ref q15, .int (nI 0), .int (nI 0), .int (nI 0)], aP E q7 16 vf, aP E q15 3 (fun _ => none), ob q34 2 [.null, .null, .int (nI 0), .int (nI 0)]] ++ seg E pa vi pg0)) rfl rfl rfl ?_
        refine v_dup X dX3_init_37 rfl ?_
        refine V.cast (ws' := (([ob h 3 [.ref q7, .ref q15, .int (nI 0), .int (nI 0), .int (nI 0)], aP E q7 16 vf, aP E q15 3 (fun _ => none)] ++ [ob q34 2 [.null, .null, .int (nI 0), .int (nI 0)]]) ++ seg E pa vi pg0)) rfl rfl rfl ?_
        refine V_perm (pm3 _ _ _ ) ?_
        refine v_nwP X (rn_IN X k_X2_init ml_X3_20 dX3_init_38 (c_X2_init l E q34 ) rfl (by decide) (by decide) (by omega) (by omega) (Nat.le_of_ble_eq_true rfl)) (wr := ([ob h 3 [.ref q7, .ref q15, .int (nI 0), .int (nI 0), .int (nI 0)], aP E q7 16 vf, aP E q15 3 (fun _ => none)] ++ seg E pa vi pg0)) rfl (fun r w1 hpo => ?_)
        obtain ⟨pi__38, pm__38, rfl, rfl⟩ := hpo
        refine V_perm (pm1 _ _ _) ?_
        refine V.cast (st' := [.ref q34, .int (nI vi), .ref q7]) (ws' := ([ob h 3 [.ref q7, .ref q15, .int (nI 0), .int (nI 0), .int (nI 0)], aP E q7 16 vf, aP E q15 3 (fun _ => none), ob q34 2 [.ref pi__38, .ref pm__38, .int (nI 0), .int (nI 0)], aN E pi__38 8 (fun _ => 0), aI E pm__38 8 (fun _ => nI 0)] ++ seg E pa vi pg0)) rfl rfl rfl ?_
        refine v_aast X dX3_init_41 1 3 rfl rfl (by omega) (by decide) (ws' := ([ob h 3 [.ref q7, .ref q15, .int (nI 0), .int (nI 0), .int (nI 0)], aP E q7 16 (va_up vf vi (some q34)), aP E q15 3 (fun _ => none), ob q34 2 [.ref pi__38, .ref pm__38, .int (nI 0), .int (nI 0)], aN E pi__38 8 (fun _ => 0), aI E pm__38 8 (fun _ => nI 0)] ++ seg E pa vi pg0)) rfl ?_
        refine V.cast (ws' := (([ob h 3 [.ref q7, .ref q15, .int (nI 0), .int (nI 0), .int (nI 0)], aP E q7 16 (va_up vf vi (some q34)), aP E q15 3 (fun _ => none)] ++ [ob q34 2 [.ref pi__38, .ref pm__38, .int (nI 0), .int (nI 0)], aN E pi__38 8 (fun _ => 0), aI E pm__38 8 (fun _ => nI 0)]) ++ seg E pa vi pg0)) rfl rfl rfl ?_
        refine V_perm (pm1 _ _ _).symm ?_
        refine V.cast (ws' := ([ob h 3 [.ref q7, .ref q15, .int (nI 0), .int (nI 0), .int (nI 0)], aP E q7 16 (va_up vf vi (some q34)), aP E q15 3 (fun _ => none)] ++ seg E (upA pa vi (q34, pi__38, pm__38)) (vi + 1) pg0)) rfl rfl (seg_add _ vi (q34, pi__38, pm__38)) ?_
        refine v_iinc X dX3_init_42 1 rfl (v := nI (vi + 1)) (nI_inc vi) (by decide) (lv' := [(1, .int (nI (vi + 1))), (0, .ref h)]) rfl ?_
        refine v_goto X dX3_init_45 (tgt := 23) (by decide) ?_
        refine V.lvs [1, 0] rfl ?_
        refine V_kn (k' := 2 + 3 * (vi + 1)) (n' := 19 + 20 * (vi + 1)) (by omega) (by omega) ?_
        exact ih23 (vi + 1) (va_up vf vi (some q34)) (upA pa vi (q34, pi__38, pm__38)) (⟨by omega, pa_up (q := (q34, pi__38, pm__38)) hf⟩) (by omega)
  refine V.lvs [1, 0] rfl ?_
  exact L23 _ 0 (fun _ => none) (fun _ => (0, 0, 0)) (⟨by omega, fun i hi => absurd hi (Nat.not_lt_zero i)⟩) (Nat.lt_succ_self _)
