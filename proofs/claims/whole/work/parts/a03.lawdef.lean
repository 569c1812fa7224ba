abbrev T60 : Type := Nat × (Nat → Nat) × (Nat → Nat) × (Nat → Nat) × (Nat → Nat) × (Nat → Nat) × Nat × Nat
abbrev T61 : Type := Int32 × Nat × Nat × Nat × Nat × Nat × Nat × Nat
abbrev T62 : Type := Int64 × Bool × Int32 × (Nat → Int32) × (Nat → Int64) × (Nat → Int64) × (Nat → Nat) × (Nat → Nat)
abbrev T63 : Type := (Nat → Int32) × (Nat → Nat) × (Nat → Nat) × (Nat → Int32) × (Nat → Nat) × (Nat → Nat) × (Nat → Nat) × (Nat → Nat)
abbrev T64 : Type := (Nat → Nat) × (Nat → Nat) × (Nat → Nat) × (Nat → Nat) × (Nat → Bool) × (Nat → Nat) × (Nat → Nat) × (Nat → Nat)
abbrev T65 : Type := (Nat → Int32) × (Nat → Nat) × (Nat → Nat) × (Nat → Nat) × (Nat → Nat) × (Nat → Nat) × (Nat → Nat) × (Nat → Nat)
abbrev T66 : Type := (Nat → Nat) × (Nat → Bool) × Nat × Nat × Nat × Nat × (Nat → Nat) × (Nat → Int32)
abbrev T67 : Type := Nat × Nat × Nat × Nat × (Nat → Nat) × (Nat → Int32) × Nat × Nat
abbrev T68 : Type := Nat × Nat × (Nat → Nat) × (Nat → Int32) × Nat × Nat × Nat × Nat
abbrev T69 : Type := (Nat → Nat) × Nat × Nat × (Nat → Int32) × (Nat → Int64) × (Nat → Nat × Nat × Nat) × (Nat → Nat × Nat × Nat) × (Nat → Pv)
abbrev T610 : Type := (Nat → Pv)
abbrev S6 : Type := T60 × T61 × T62 × T63 × T64 × T65 × T66 × T67 × T68 × T69 × T610
abbrev g6_0 (s : S6) : T60 := s.1
abbrev s6_g (s : S6) : Nat := (g6_0 s).1
abbrev s6_xa (s : S6) : Nat → Nat := (g6_0 s).2.1
abbrev s6_ra (s : S6) : Nat → Nat := (g6_0 s).2.2.1
abbrev s6_caz (s : S6) : Nat → Nat := (g6_0 s).2.2.2.1
abbrev s6_ca (s : S6) : Nat → Nat := (g6_0 s).2.2.2.2.1
abbrev s6_pq (s : S6) : Nat → Nat := (g6_0 s).2.2.2.2.2.1
abbrev s6_fl (s : S6) : Nat := (g6_0 s).2.2.2.2.2.2.1
abbrev s6_tr (s : S6) : Nat := (g6_0 s).2.2.2.2.2.2.2
abbrev g6_1 (s : S6) : T61 := s.2.1
abbrev s6_pl (s : S6) : Int32 := (g6_1 s).1
abbrev s6_fd (s : S6) : Nat := (g6_1 s).2.1
abbrev s6_re (s : S6) : Nat := (g6_1 s).2.2.1
abbrev s6_rk (s : S6) : Nat := (g6_1 s).2.2.2.1
abbrev s6_rp (s : S6) : Nat := (g6_1 s).2.2.2.2.1
abbrev s6_rn (s : S6) : Nat := (g6_1 s).2.2.2.2.2.1
abbrev s6_rc (s : S6) : Nat := (g6_1 s).2.2.2.2.2.2.1
abbrev s6_rf (s : S6) : Nat := (g6_1 s).2.2.2.2.2.2.2
abbrev g6_2 (s : S6) : T62 := s.2.2.1
abbrev s6_rv (s : S6) : Int64 := (g6_2 s).1
abbrev s6_rh (s : S6) : Bool := (g6_2 s).2.1
abbrev s6_rw (s : S6) : Int32 := (g6_2 s).2.2.1
abbrev s6_tp (s : S6) : Nat → Int32 := (g6_2 s).2.2.2.1
abbrev s6_kwd (s : S6) : Nat → Int64 := (g6_2 s).2.2.2.2.1
abbrev s6_nms (s : S6) : Nat → Int64 := (g6_2 s).2.2.2.2.2.1
abbrev s6_nso (s : S6) : Nat → Nat := (g6_2 s).2.2.2.2.2.2.1
abbrev s6_nnu (s : S6) : Nat → Nat := (g6_2 s).2.2.2.2.2.2.2
abbrev g6_3 (s : S6) : T63 := s.2.2.2.1
abbrev s6_cz (s : S6) : Nat → Int32 := (g6_3 s).1
abbrev s6_z0 (s : S6) : Nat → Nat := (g6_3 s).2.1
abbrev s6_z1 (s : S6) : Nat → Nat := (g6_3 s).2.2.1
abbrev s6_z2 (s : S6) : Nat → Int32 := (g6_3 s).2.2.2.1
abbrev s6_z3 (s : S6) : Nat → Nat := (g6_3 s).2.2.2.2.1
abbrev s6_z4 (s : S6) : Nat → Nat := (g6_3 s).2.2.2.2.2.1
abbrev s6_z5 (s : S6) : Nat → Nat := (g6_3 s).2.2.2.2.2.2.1
abbrev s6_z6 (s : S6) : Nat → Nat := (g6_3 s).2.2.2.2.2.2.2
abbrev g6_4 (s : S6) : T64 := s.2.2.2.2.1
abbrev s6_zU (s : S6) : Nat → Nat := (g6_4 s).1
abbrev s6_zM (s : S6) : Nat → Nat := (g6_4 s).2.1
abbrev s6_zD (s : S6) : Nat → Nat := (g6_4 s).2.2.1
abbrev s6_zS (s : S6) : Nat → Nat := (g6_4 s).2.2.2.1
abbrev s6_zK (s : S6) : Nat → Bool := (g6_4 s).2.2.2.2.1
abbrev s6_cy (s : S6) : Nat → Nat := (g6_4 s).2.2.2.2.2.1
abbrev s6_f0 (s : S6) : Nat → Nat := (g6_4 s).2.2.2.2.2.2.1
abbrev s6_f1 (s : S6) : Nat → Nat := (g6_4 s).2.2.2.2.2.2.2
abbrev g6_5 (s : S6) : T65 := s.2.2.2.2.2.1
abbrev s6_f2 (s : S6) : Nat → Int32 := (g6_5 s).1
abbrev s6_f3 (s : S6) : Nat → Nat := (g6_5 s).2.1
abbrev s6_f4 (s : S6) : Nat → Nat := (g6_5 s).2.2.1
abbrev s6_Fs (s : S6) : Nat → Nat := (g6_5 s).2.2.2.1
abbrev s6_Ft (s : S6) : Nat → Nat := (g6_5 s).2.2.2.2.1
abbrev s6_uc (s : S6) : Nat → Nat := (g6_5 s).2.2.2.2.2.1
abbrev s6_dm (s : S6) : Nat → Nat := (g6_5 s).2.2.2.2.2.2.1
abbrev s6_dy (s : S6) : Nat → Nat := (g6_5 s).2.2.2.2.2.2.2
abbrev g6_6 (s : S6) : T66 := s.2.2.2.2.2.2.1
abbrev s6_ds (s : S6) : Nat → Nat := (g6_6 s).1
abbrev s6_dk (s : S6) : Nat → Bool := (g6_6 s).2.1
abbrev s6_i2 (s : S6) : Nat := (g6_6 s).2.2.1
abbrev s6_m2 (s : S6) : Nat := (g6_6 s).2.2.2.1
abbrev s6_t2 (s : S6) : Nat := (g6_6 s).2.2.2.2.1
abbrev s6_d2 (s : S6) : Nat := (g6_6 s).2.2.2.2.2.1
abbrev s6_ink2 (s : S6) : Nat → Nat := (g6_6 s).2.2.2.2.2.2.1
abbrev s6_mn2 (s : S6) : Nat → Int32 := (g6_6 s).2.2.2.2.2.2.2
abbrev g6_7 (s : S6) : T67 := s.2.2.2.2.2.2.2.1
abbrev s6_hi (s : S6) : Nat := (g6_7 s).1
abbrev s6_hm (s : S6) : Nat := (g6_7 s).2.1
abbrev s6_t (s : S6) : Nat := (g6_7 s).2.2.1
abbrev s6_dd (s : S6) : Nat := (g6_7 s).2.2.2.1
abbrev s6_ink (s : S6) : Nat → Nat := (g6_7 s).2.2.2.2.1
abbrev s6_mn (s : S6) : Nat → Int32 := (g6_7 s).2.2.2.2.2.1
abbrev s6_ri (s : S6) : Nat := (g6_7 s).2.2.2.2.2.2.1
abbrev s6_rm (s : S6) : Nat := (g6_7 s).2.2.2.2.2.2.2
abbrev g6_8 (s : S6) : T68 := s.2.2.2.2.2.2.2.2.1
abbrev s6_t4 (s : S6) : Nat := (g6_8 s).1
abbrev s6_d4 (s : S6) : Nat := (g6_8 s).2.1
abbrev s6_ink4 (s : S6) : Nat → Nat := (g6_8 s).2.2.1
abbrev s6_mn4 (s : S6) : Nat → Int32 := (g6_8 s).2.2.2.1
abbrev s6_o (s : S6) : Nat := (g6_8 s).2.2.2.2.1
abbrev s6_ac (s : S6) : Nat := (g6_8 s).2.2.2.2.2.1
abbrev s6_im (s : S6) : Nat := (g6_8 s).2.2.2.2.2.2.1
abbrev s6_hw (s : S6) : Nat := (g6_8 s).2.2.2.2.2.2.2
abbrev g6_9 (s : S6) : T69 := s.2.2.2.2.2.2.2.2.2.1
abbrev s6_wt (s : S6) : Nat → Nat := (g6_9 s).1
abbrev s6_hr (s : S6) : Nat := (g6_9 s).2.1
abbrev s6_hs (s : S6) : Nat := (g6_9 s).2.2.1
abbrev s6_row (s : S6) : Nat → Int32 := (g6_9 s).2.2.2.1
abbrev s6_sl (s : S6) : Nat → Int64 := (g6_9 s).2.2.2.2.1
abbrev s6_pa (s : S6) : Nat → Nat × Nat × Nat := (g6_9 s).2.2.2.2.2.1
abbrev s6_pb (s : S6) : Nat → Nat × Nat × Nat := (g6_9 s).2.2.2.2.2.2.1
abbrev s6_pk (s : S6) : Nat → Pv := (g6_9 s).2.2.2.2.2.2.2
abbrev g6_10 (s : S6) : T610 := s.2.2.2.2.2.2.2.2.2.2
abbrev s6_pj (s : S6) : Nat → Pv := (g6_10 s)
abbrev T80 : Type := (Nat → Nat) × Nat × Nat × Int32 × (Option Nat) × (Nat → Nat) × Int32 × Int32
abbrev T81 : Type := Int64 × Nat × Int32 × Int64 × (Nat → Int32) × (Nat → Pv) × (Nat → Pv) × (Nat → Nat)
abbrev T82 : Type := (Nat → Int32) × (Nat → Nat) × (Nat → Nat) × (Nat → Int32) × Nat × (Nat → Nat) × Nat × Nat
abbrev T83 : Type := (Nat → Nat) × (Nat → Nat) × (Nat → Nat) × (Nat → Nat) × (Nat → Int32) × (Nat → Nat) × (Nat → Nat) × (Nat → Nat)
abbrev T84 : Type := (Nat → Nat) × (Nat → Int64) × (Nat → Nat) × (Nat → Nat)
abbrev S8 : Type := T80 × T81 × T82 × T83 × T84
abbrev g8_0 (s : S8) : T80 := s.1
abbrev s8_q (s : S8) : Nat → Nat := (g8_0 s).1
abbrev s8_th (s : S8) : Nat := (g8_0 s).2.1
abbrev s8_tr8 (s : S8) : Nat := (g8_0 s).2.2.1
abbrev s8_wh (s : S8) : Int32 := (g8_0 s).2.2.2.1
abbrev s8_rr (s : S8) : Option Nat := (g8_0 s).2.2.2.2.1
abbrev s8_z (s : S8) : Nat → Nat := (g8_0 s).2.2.2.2.2.1
abbrev s8_nb (s : S8) : Int32 := (g8_0 s).2.2.2.2.2.2.1
abbrev s8_wa (s : S8) : Int32 := (g8_0 s).2.2.2.2.2.2.2
abbrev g8_1 (s : S8) : T81 := s.2.1
abbrev s8_wd (s : S8) : Int64 := (g8_1 s).1
abbrev s8_ev (s : S8) : Nat := (g8_1 s).2.1
abbrev s8_al (s : S8) : Int32 := (g8_1 s).2.2.1
abbrev s8_wl (s : S8) : Int64 := (g8_1 s).2.2.2.1
abbrev s8_xf (s : S8) : Nat → Int32 := (g8_1 s).2.2.2.2.1
abbrev s8_pp (s : S8) : Nat → Pv := (g8_1 s).2.2.2.2.2.1
abbrev s8_pj8 (s : S8) : Nat → Pv := (g8_1 s).2.2.2.2.2.2.1
abbrev s8_ke (s : S8) : Nat → Nat := (g8_1 s).2.2.2.2.2.2.2
abbrev g8_2 (s : S8) : T82 := s.2.2.1
abbrev s8_g2 (s : S8) : Nat → Int32 := (g8_2 s).1
abbrev s8_hv (s : S8) : Nat → Nat := (g8_2 s).2.1
abbrev s8_ti (s : S8) : Nat → Nat := (g8_2 s).2.2.1
abbrev s8_vf (s : S8) : Nat → Int32 := (g8_2 s).2.2.2.1
abbrev s8_g8 (s : S8) : Nat := (g8_2 s).2.2.2.2.1
abbrev s8_cb (s : S8) : Nat → Nat := (g8_2 s).2.2.2.2.2.1
abbrev s8_kp (s : S8) : Nat := (g8_2 s).2.2.2.2.2.2.1
abbrev s8_nc (s : S8) : Nat := (g8_2 s).2.2.2.2.2.2.2
abbrev g8_3 (s : S8) : T83 := s.2.2.2.1
abbrev s8_gm (s : S8) : Nat → Nat := (g8_3 s).1
abbrev s8_gi (s : S8) : Nat → Nat := (g8_3 s).2.1
abbrev s8_gf (s : S8) : Nat → Nat := (g8_3 s).2.2.1
abbrev s8_go_ (s : S8) : Nat → Nat := (g8_3 s).2.2.2.1
abbrev s8_gt_ (s : S8) : Nat → Int32 := (g8_3 s).2.2.2.2.1
abbrev s8_un (s : S8) : Nat → Nat := (g8_3 s).2.2.2.2.2.1
abbrev s8_d1 (s : S8) : Nat → Nat := (g8_3 s).2.2.2.2.2.2.1
abbrev s8_d2_ (s : S8) : Nat → Nat := (g8_3 s).2.2.2.2.2.2.2
abbrev g8_4 (s : S8) : T84 := s.2.2.2.2
abbrev s8_d3 (s : S8) : Nat → Nat := (g8_4 s).1
abbrev s8_na (s : S8) : Nat → Int64 := (g8_4 s).2.1
abbrev s8_ns (s : S8) : Nat → Nat := (g8_4 s).2.2.1
abbrev s8_nu (s : S8) : Nat → Nat := (g8_4 s).2.2.2
/-! both objects at once -/
noncomputable def W6 (E : Et) (x : Nat) (u6 : S6) : va_W := ([ob x 6 [.ref ((s6_xa u6) 0), .ref (s6_g u6), .ref ((s6_xa u6) 2), .ref ((s6_xa u6) 3), .ref ((s6_xa u6) 4), .ref ((s6_xa u6) 5), .ref ((s6_xa u6) 6), .ref ((s6_xa u6) 7), .int (nI (s6_tr u6)), .int (nI (s6_fl u6)), .int (s6_pl u6)], ob ((s6_xa u6) 0) 4 [.ref ((s6_ra u6) 0), .int (nI (s6_fd u6)), .ref ((s6_ra u6) 2), .ref ((s6_ra u6) 3), .int (nI (s6_re u6)), .int (nI (s6_rk u6)), .int (nI (s6_rp u6)), .int (nI (s6_rn u6)), .long (s6_rv u6), .int (nI ((s6_rh u6)).toNat), .ref ((s6_ra u6) 10), .ref ((s6_ra u6) 11), .ref ((s6_ra u6) 12), .int (nI (s6_rc u6)), .int (nI (s6_rf u6)), .int (s6_rw u6)], aB E ((s6_ra u6) 0) 900 (s6_tp u6), aL E ((s6_ra u6) 2) 6 (s6_kwd u6), aL E ((s6_ra u6) 10) 18 (s6_nms u6), aN E ((s6_ra u6) 11) 18 (s6_nso u6), aN E ((s6_ra u6) 12) 18 (s6_nnu u6), ob ((s6_ra u6) 3) 0 [.int ((s6_cz u6) 0), .int ((s6_cz u6) 1), .int ((s6_cz u6) 2), .int ((s6_cz u6) 3), .int ((s6_cz u6) 4), .int ((s6_cz u6) 5), .int ((s6_cz u6) 6), .int ((s6_cz u6) 7), .ref ((s6_caz u6) 0), .ref ((s6_caz u6) 1), .ref ((s6_caz u6) 2), .ref ((s6_caz u6) 3), .ref ((s6_caz u6) 4), .ref ((s6_caz u6) 5), .ref ((s6_caz u6) 6), .ref ((s6_caz u6) 7), .ref ((s6_caz u6) 8), .ref ((s6_caz u6) 9), .ref ((s6_caz u6) 10), .ref ((s6_caz u6) 11)], aN E ((s6_caz u6) 0) 8 (s6_z0 u6), aN E ((s6_caz u6) 1) 8 (s6_z1 u6), aI E ((s6_caz u6) 2) 8 (s6_z2 u6), aN E ((s6_caz u6) 3) 8 (s6_z3 u6), aN E ((s6_caz u6) 4) 8 (s6_z4 u6), aM E ((s6_caz u6) 5) 8 (s6_z5 u6), aM E ((s6_caz u6) 6) 8 (s6_z6 u6), aN E ((s6_caz u6) 7) 5 (s6_zU u6), aN E ((s6_caz u6) 8) 6 (s6_zM u6), aN E ((s6_caz u6) 9) 6 (s6_zD u6), aN E ((s6_caz u6) 10) 6 (s6_zS u6), aZ E ((s6_caz u6) 11) 6 (s6_zK u6), ob (s6_g u6) 0 [.int (nI ((s6_cy u6) 0)), .int (nI ((s6_cy u6) 1)), .int (nI ((s6_cy u6) 2)), .int (nI ((s6_cy u6) 3)), .int (nI ((s6_cy u6) 4)), .int (nI ((s6_cy u6) 5)), .int (nI ((s6_cy u6) 6)), .int (nI ((s6_cy u6) 7)), .ref ((s6_ca u6) 0), .ref ((s6_ca u6) 1), .ref ((s6_ca u6) 2), .ref ((s6_ca u6) 3), .ref ((s6_ca u6) 4), .ref ((s6_ca u6) 5), .ref ((s6_ca u6) 6), .ref ((s6_ca u6) 7), .ref ((s6_ca u6) 8), .ref ((s6_ca u6) 9), .ref ((s6_ca u6) 10), .ref ((s6_ca u6) 11)], aN E ((s6_ca u6) 0) 8 (s6_f0 u6), aN E ((s6_ca u6) 1) 8 (s6_f1 u6), aI E ((s6_ca u6) 2) 8 (s6_f2 u6), aN E ((s6_ca u6) 3) 8 (s6_f3 u6), aN E ((s6_ca u6) 4) 8 (s6_f4 u6), aM E ((s6_ca u6) 5) 8 (s6_Fs u6), aM E ((s6_ca u6) 6) 8 (s6_Ft u6), aN E ((s6_ca u6) 7) 5 (s6_uc u6), aN E ((s6_ca u6) 8) 6 (s6_dm u6), aN E ((s6_ca u6) 9) 6 (s6_dy u6), aN E ((s6_ca u6) 10) 6 (s6_ds u6), aZ E ((s6_ca u6) 11) 6 (s6_dk u6), ob ((s6_xa u6) 2) 2 [.ref (s6_i2 u6), .ref (s6_m2 u6), .int (nI (s6_t2 u6)), .int (nI (s6_d2 u6))], aN E (s6_i2 u6) 8 (s6_ink2 u6), aI E (s6_m2 u6) 8 (s6_mn2 u6), ob ((s6_xa u6) 3) 2 [.ref (s6_hi u6), .ref (s6_hm u6), .int (nI (s6_t u6)), .int (nI (s6_dd u6))], aN E (s6_hi u6) 8 (s6_ink u6), aI E (s6_hm u6) 8 (s6_mn u6), ob ((s6_xa u6) 4) 2 [.ref (s6_ri u6), .ref (s6_rm u6), .int (nI (s6_t4 u6)), .int (nI (s6_d4 u6))], aN E (s6_ri u6) 8 (s6_ink4 u6), aI E (s6_rm u6) 8 (s6_mn4 u6), ob ((s6_xa u6) 5) 3 [.ref ((s6_pq u6) 0), .ref ((s6_pq u6) 1), .int (nI (s6_o u6)), .int (nI (s6_ac u6)), .int (nI (s6_im u6))], aP E ((s6_pq u6) 0) 16 (fun i => some ((s6_pa u6) i).1), aP E ((s6_pq u6) 1) 3 (fun i => some ((s6_pb u6) i).1), ob ((s6_xa u6) 6) 1 [.ref (s6_hw u6)], aM E (s6_hw u6) 32 (s6_wt u6), ob ((s6_xa u6) 7) 5 [.ref (s6_hr u6), .ref (s6_hs u6)], aI E (s6_hr u6) 8 (s6_row u6), aL E (s6_hs u6) 8 (s6_sl u6)] ++ seg E (s6_pa u6) 16 (s6_pk u6) ++ seg E (s6_pb u6) 3 (s6_pj u6))
noncomputable def W8n (E : Et) (k : Nat) (u6 : S6) (u8 : S8) : va_W := [ob k 8 [.int (nI (s8_th u8)), .int (nI (s8_tr8 u8)), .int (s8_wh u8), .null, va_rf (s8_rr u8), .ref ((s8_q u8) 5), .int (nI (s6_fd u6)), .int (nI ((s8_z u8) 7)), .int (nI ((s8_z u8) 8)), .int (nI ((s8_z u8) 9)), .int (nI ((s8_z u8) 10)), .int (s8_nb u8), .int (nI (s6_fl u6)), .int (s8_wa u8), .long (s8_wd u8), .ref ((s8_q u8) 15), .ref ((s8_q u8) 16), .ref ((s8_q u8) 17), .ref ((s8_q u8) 18), .int (nI (s6_ac u6)), .int (nI (s6_im u6)), .ref ((s8_q u8) 21), .long (lN (s8_ev u8)), .ref ((s8_q u8) 23), .ref ((s8_q u8) 24), .int (nI ((s8_z u8) 25)), .ref ((s8_q u8) 26), .int (s8_al u8), .long (s8_wl u8), .int (nI ((s8_z u8) 29))], aB E ((s8_q u8) 5) 900 (s6_tp u6), aI E ((s8_q u8) 15) 25 (s8_vf u8), aI E ((s8_q u8) 16) 25 (s8_xf u8), aI E ((s8_q u8) 17) 400 (rwF (s8_pp u8)), aI E ((s8_q u8) 18) 75 (rwF (s8_pj8 u8)), aM E ((s8_q u8) 21) 8 (s8_ke u8), aI E ((s8_q u8) 23) 8 (s8_g2 u8), aN E ((s8_q u8) 24) 8 (s8_hv u8), aN E ((s8_q u8) 26) 5 (s8_ti u8)]
noncomputable def W8c (E : Et) (k : Nat) (u6 : S6) (u8 : S8) : va_W := [ob k 8 [.int (nI (s8_th u8)), .int (nI (s8_tr8 u8)), .int (s8_wh u8), .ref (s8_g8 u8), va_rf (s8_rr u8), .ref ((s8_q u8) 5), .int (nI (s6_fd u6)), .int (nI ((s8_z u8) 7)), .int (nI ((s8_z u8) 8)), .int (nI ((s8_z u8) 9)), .int (nI ((s8_z u8) 10)), .int (s8_nb u8), .int (nI (s6_fl u6)), .int (s8_wa u8), .long (s8_wd u8), .ref ((s8_q u8) 15), .ref ((s8_q u8) 16), .ref ((s8_q u8) 17), .ref ((s8_q u8) 18), .int (nI (s6_ac u6)), .int (nI (s6_im u6)), .ref ((s8_q u8) 21), .long (lN (s8_ev u8)), .ref ((s8_q u8) 23), .ref ((s8_q u8) 24), .int (nI ((s8_z u8) 25)), .ref ((s8_q u8) 26), .int (s8_al u8), .long (s8_wl u8), .int (nI ((s8_z u8) 29))], aB E ((s8_q u8) 5) 900 (s6_tp u6), aI E ((s8_q u8) 15) 25 (xF (s6_mn u6) (s6_ink u6) (s6_t u6) (s6_dd u6)), aI E ((s8_q u8) 16) 25 (s8_xf u8), aI E ((s8_q u8) 17) 400 (rwF (s8_pp u8)), aI E ((s8_q u8) 18) 75 (rwF (s8_pj8 u8)), aM E ((s8_q u8) 21) 8 (s8_ke u8), aI E ((s8_q u8) 23) 8 (s8_g2 u8), aN E ((s8_q u8) 24) 8 (s8_hv u8), aN E ((s8_q u8) 26) 5 (s8_ti u8), ob (s8_g8 u8) 7 [.int (nI ((s6_cy u6) 0)), .int (nI ((s6_cy u6) 1)), .int (nI ((s6_cy u6) 2)), .int (nI ((s6_cy u6) 3)), .int (nI ((s6_cy u6) 4)), .int (nI ((s6_cy u6) 5)), .int (nI ((s6_cy u6) 6)), .int (nI ((s6_cy u6) 7)), .int (nI (s8_kp u8)), .int (nI (s8_nc u8)), .ref ((s8_cb u8) 0), .ref ((s8_cb u8) 1), .ref ((s8_cb u8) 2), .ref ((s8_cb u8) 3), .ref ((s8_cb u8) 4), .ref ((s8_cb u8) 5), .ref ((s8_cb u8) 6), .ref ((s8_cb u8) 7), .ref ((s8_cb u8) 8), .ref ((s8_cb u8) 9), .ref ((s8_cb u8) 10), .ref ((s8_cb u8) 11)], aN E ((s8_cb u8) 0) 8 (s8_gm u8), aN E ((s8_cb u8) 1) 8 (s8_gi u8), aN E ((s8_cb u8) 2) 8 (s8_gf u8), aN E ((s8_cb u8) 3) 8 (s8_go_ u8), aI E ((s8_cb u8) 4) 8 (s8_gt_ u8), aN E ((s8_cb u8) 5) 5 (s8_un u8), aN E ((s8_cb u8) 6) 6 (s8_d1 u8), aN E ((s8_cb u8) 7) 6 (s8_d2_ u8), aN E ((s8_cb u8) 8) 6 (s8_d3 u8), aL E ((s8_cb u8) 9) 18 (s8_na u8), aN E ((s8_cb u8) 10) 18 (s8_ns u8), aN E ((s8_cb u8) 11) 18 (s8_nu u8)]
def F6 (fd : Nat) (tp : Nat → Int32) (kwd : Nat → Int64) (z4 : Nat → Nat) (cy : Nat → Nat) (f4 : Nat → Nat) (ink2 : Nat → Nat) (wt : Nat → Nat) (dy : Nat → Nat) (ds : Nat → Nat) (ink : Nat → Nat) (t : Nat) (o : Nat) (ac : Nat) (im : Nat) : Prop := fd ≤ 900 ∧ byT tp ∧ (∀ s, s < 6 → kwd s = lN (pkS 27 s)) ∧ (∀ c, z4 c ≤ 40) ∧ (∀ c, f4 c ≤ 40) ∧ (∀ c, ink2 c ≤ 40) ∧ (∀ s, wt s ≤ 1000000000000) ∧ (∀ i, i < cy 7 → dy i ≤ 40) ∧ (∀ i, i < cy 7 → ds i < 64) ∧ (∀ c, ink c ≤ 40) ∧ t < 256 ∧ o < 16 ∧ ac ≤ 16 ∧ im ≤ 3 ∧ cy 0 ≤ 9 ∧ cy 1 ≤ 100 ∧ cy 2 ≤ 100 ∧ cy 3 ≤ 4 ∧ cy 4 ≤ 6 ∧ cy 5 ≤ 8 ∧ cy 6 ≤ 5 ∧ cy 7 ≤ 6
def NC (cy : Nat → Nat) (dd ac im : Nat) : Prop := (∀ j, j < 8 → cy j = 0) ∧ dd = 0 ∧ ac = 0 ∧ im = 0
def PK (cy : Nat → Nat) (v : Pv) : Prop := (∀ c, v.1 c ≤ 40) ∧ (∀ c, cy 5 ≤ c → v.1 c = 0) ∧ (∀ c, cy 5 ≤ c → v.2.1 c = -1) ∧ v.2.2.1 < 256 ∧ v.2.2.2 ≤ 999
def G8 (cy : Nat → Nat) (f0 : Nat → Nat) (f1 : Nat → Nat) (f2 : Nat → Int32) (f3 : Nat → Nat) (f4 : Nat → Nat) (Fs : Nat → Nat) (Ft : Nat → Nat) (uc : Nat → Nat) (dm : Nat → Nat) (dy : Nat → Nat) (ds : Nat → Nat) (dk : Nat → Bool) (ink2 : Nat → Nat) (mn2 : Nat → Int32) (wt : Nat → Nat) (gm : Nat → Nat) (gi : Nat → Nat) (gf : Nat → Nat) (go_ : Nat → Nat) (gt_ : Nat → Int32) (un : Nat → Nat) (d1 : Nat → Nat) (d2_ : Nat → Nat) (d3 : Nat → Nat) (kp : Nat) : Prop := 1 ≤ cy 3 ∧ 1 ≤ cy 4 ∧ RIc cy (f0, f1, f2, f3, f4, Fs, Ft) ∧ RId cy (uc, dm, dy, ds, dk) ∧ (∀ c, c < cy 5 → gm c = f3 c ∧ gi c = f4 c ∧ gf c = f0 c ∧ go_ c = f1 c ∧ gt_ c = f2 c) ∧ (∀ j, j < cy 6 → un j = uc j) ∧ (∀ i, i < cy 7 → d1 i = dm i ∧ d2_ i = dy i ∧ d3 i = ds i ∧ kp.testBit i = dk i) ∧ kp < 2 ^ cy 7 ∧ (ink2, mn2) = stF (cy 0) f3 f4 (cy 5) ∧ wt = wtF cy Fs Ft dm dy ds dk ink2 mn2 uc
def GP (cy : Nat → Nat) (cur : Pv) (o ac im : Nat) (pk pj pp pj8 : Nat → Pv) : Prop := PK cy cur ∧ (∀ i, i < ac → pp i = pk ((o + i) % 16) ∧ PK cy (pp i)) ∧ (∀ i, i < im → pj8 i = pj i ∧ PK cy (pj i))
def TW (tr tr8 : Nat) (wh pl : Int32) : Prop := tr8 = tr ∧ tr8 ≤ 6 ∧ wh = (if tr8 = 4 then pl else -1)
theorem tw_of {tr : Nat} (n : Nat) {pl : Int32} (h : n = tr) (h6 : n ≤ 6) (h4 : ¬ n = 4) : TW tr n (-1) pl := ⟨h, h6, (if_neg h4).symm⟩
def INn (E : Et) (x k : Nat) (w6 w8 : va_W) : Prop := ∃ (u6 : S6) (u8 : S8), List.Perm w6 (W6 E x u6) ∧ List.Perm w8 (W8n E k u6 u8) ∧ F6 (s6_fd u6) (s6_tp u6) (s6_kwd u6) (s6_z4 u6) (s6_cy u6) (s6_f4 u6) (s6_ink2 u6) (s6_wt u6) (s6_dy u6) (s6_ds u6) (s6_ink u6) (s6_t u6) (s6_o u6) (s6_ac u6) (s6_im u6) ∧ NC (s6_cy u6) (s6_dd u6) (s6_ac u6) (s6_im u6) ∧ TW (s6_tr u6) (s8_tr8 u8) (s8_wh u8) (s6_pl u6)
def INc (E : Et) (x k : Nat) (w6 w8 : va_W) : Prop := ∃ (u6 : S6) (u8 : S8), List.Perm w6 (W6 E x u6) ∧ List.Perm w8 (W8c E k u6 u8) ∧ F6 (s6_fd u6) (s6_tp u6) (s6_kwd u6) (s6_z4 u6) (s6_cy u6) (s6_f4 u6) (s6_ink2 u6) (s6_wt u6) (s6_dy u6) (s6_ds u6) (s6_ink u6) (s6_t u6) (s6_o u6) (s6_ac u6) (s6_im u6) ∧ G8 (s6_cy u6) (s6_f0 u6) (s6_f1 u6) (s6_f2 u6) (s6_f3 u6) (s6_f4 u6) (s6_Fs u6) (s6_Ft u6) (s6_uc u6) (s6_dm u6) (s6_dy u6) (s6_ds u6) (s6_dk u6) (s6_ink2 u6) (s6_mn2 u6) (s6_wt u6) (s8_gm u8) (s8_gi u8) (s8_gf u8) (s8_go_ u8) (s8_gt_ u8) (s8_un u8) (s8_d1 u8) (s8_d2_ u8) (s8_d3 u8) (s8_kp u8) ∧ GP (s6_cy u6) ((s6_ink u6), (s6_mn u6), (s6_t u6), (s6_dd u6)) (s6_o u6) (s6_ac u6) (s6_im u6) (s6_pk u6) (s6_pj u6) (s8_pp u8) (s8_pj8 u8) ∧ TW (s6_tr u6) (s8_tr8 u8) (s8_wh u8) (s6_pl u6)
def INV (E : Et) (x k : Nat) (w6 w8 : va_W) : Prop := INn E x k w6 w8 ∨ INc E x k w6 w8
def OpI (E : Et) (x k : Nat) (C6 C8 : va_W → (Option Value → va_W → Prop) → Prop) : Prop := ∀ w6 w8, INV E x k w6 w8 → ∃ P6 P8, C6 w6 P6 ∧ C8 w8 P8 ∧ (∀ r w, P6 r w → ∃ v, r = some (.int v)) ∧ ∀ r w r' w', P6 r w → P8 r' w' → r = r' ∧ INV E x k w w'
def OpL (E : Et) (x k : Nat) (C6 C8 : va_W → (Option Value → va_W → Prop) → Prop) : Prop := ∀ w6 w8, INV E x k w6 w8 → ∃ P6 P8, C6 w6 P6 ∧ C8 w8 P8 ∧ (∀ r w, P6 r w → ∃ v, r = some (.long v)) ∧ ∀ r w r' w', P6 r w → P8 r' w' → r = r' ∧ INV E x k w w'
section FRI
variable {l : Launch} {E : Et} {y : MethodName} {cc : ByteArray} {nL : Nat} {ret : Option FieldType} {d mc ms : Nat} {av : List Value} {wc ws ws' w2 : va_W}
theorem Ct.frI {v : Int32} (h : Ct l E y cc nL ret d mc ms av wc (wrI w2 v)) (isC : List Nat) (hn : va_nd isC = true) (hC : isC.map (fun i => ws[i]?) = wc.map some) (hf : w2.map Prod.fst = wc.map Prod.fst) (hw : wput ws isC w2 = ws') : Ct l E y cc nL ret d mc ms av ws (wrI ws' v) := Ct.frame h isC hn hC (fun r w1 hp => by obtain ⟨rfl, rfl⟩ := hp; exact ⟨hf, hw, rfl⟩)
theorem Ct.frL {v : Int64} (h : Ct l E y cc nL ret d mc ms av wc (wrL w2 v)) (isC : List Nat) (hn : va_nd isC = true) (hC : isC.map (fun i => ws[i]?) = wc.map some) (hf : w2.map Prod.fst = wc.map Prod.fst) (hw : wput ws isC w2 = ws') : Ct l E y cc nL ret d mc ms av ws (wrL ws' v) := Ct.frame h isC hn hC (fun r w1 hp => by obtain ⟨rfl, rfl⟩ := hp; exact ⟨hf, hw, rfl⟩)
theorem Ct.frRI {v : Int32} (h : Ct l E y cc nL ret d mc ms av wc (roI wc v)) (isC : List Nat) (hn : va_nd isC = true) (hC : isC.map (fun i => ws[i]?) = wc.map some) (hw : wput ws isC wc = ws') : Ct l E y cc nL ret d mc ms av ws (wrI ws' v) := Ct.frame h isC hn hC (fun r w1 hp => by obtain ⟨rfl, rfl⟩ := hp; exact ⟨rfl, hw, rfl⟩)
theorem Ct.fjI {α : Type} {W W' : α → va_W} {v : Int32} (h : Ct l E y cc nL ret d mc ms av wc (jwrI W v)) (isC : List Nat) (hn : va_nd isC = true) (hC : isC.map (fun i => ws[i]?) = wc.map some) (hf : ∀ a, (W a).map Prod.fst = wc.map Prod.fst) (hw : ∀ a, wput ws isC (W a) = W' a) : Ct l E y cc nL ret d mc ms av ws (jwrI W' v) := Ct.frame h isC hn hC (fun r w1 hp => by obtain ⟨⟨a, rfl⟩, rfl⟩ := hp; exact ⟨hf a, ⟨a, hw a⟩, rfl⟩)
theorem Ct.fjL {α : Type} {W W' : α → va_W} {v : Int64} (h : Ct l E y cc nL ret d mc ms av wc (jwrL W v)) (isC : List Nat) (hn : va_nd isC = true) (hC : isC.map (fun i => ws[i]?) = wc.map some) (hf : ∀ a, (W a).map Prod.fst = wc.map Prod.fst) (hw : ∀ a, wput ws isC (W a) = W' a) : Ct l E y cc nL ret d mc ms av ws (jwrL W' v) := Ct.frame h isC hn hC (fun r w1 hp => by obtain ⟨⟨a, rfl⟩, rfl⟩ := hp; exact ⟨hf a, ⟨a, hw a⟩, rfl⟩)
end FRI
