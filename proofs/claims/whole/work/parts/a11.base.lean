/-! a text is told to both -/
section DROP
variable {l : Launch} {E : Et} {y : MethodName} {cc : ByteArray} {nL : Nat} {ret : Option FieldType} {d mc ms : Nat} {av : List Value} {wc ws wr : va_W} {Po Po' : Option Value → va_W → Prop}
theorem Ct.drop (h : Ct l E y cc nL ret d mc ms av ws Po) (kk : ∀ r w, Po r w → ∃ (w' : va_W) (is : List Nat), va_nd is = true ∧ is.map (fun i => w[i]?) = w'.map some ∧ Po' r w') : Ct l E y cc nL ret d mc ms av ws Po' := by
  intro sz
  refine MetFree.mono (h sz) (fun _ _ z => z) (fun _ _ _ _ _ z => z) ?_
  rintro a st o t hp ⟨⟨⟨r, w1, h1, h2, h3, h4⟩, h5⟩, h6⟩
  obtain ⟨w', is, hn, hs, hp'⟩ := kk r w1 h2
  exact ⟨⟨⟨r, w', h1, hp', h3.sub is (fm_of hs), h4.sub is hn hs⟩, h5⟩, h6⟩
theorem Ct.frX (h : Ct l E y cc nL ret d mc ms av wc Po) (isC : List Nat) (hn : va_nd isC = true) (hC : isC.map (fun i => ws[i]?) = wc.map some) (hf : ∀ r w1, Po r w1 → w1.map Prod.fst = wc.map Prod.fst) : Ct l E y cc nL ret d mc ms av ws (fun r w => ∃ w1, Po r w1 ∧ w = wput ws isC w1) := Ct.frame h isC hn hC (fun r w1 hp => ⟨hf r w1 hp, w1, hp, rfl⟩)
theorem Ct.frNX (h : Ct l E y cc nL ret d mc ms av wc Po) : Ct l E y cc nL ret d mc ms av (wc ++ wr) (fun r w => ∃ w1, Po r w1 ∧ w = wr ++ w1) := Ct.frameN h (fun r w1 hp => ⟨w1, hp, rfl⟩)
end DROP
theorem pmsw (p a b s : va_W) : List.Perm (p ++ (a ++ (b ++ s))) (p ++ (b ++ (a ++ s))) := by
  refine List.Perm.append_left p ?_
  rw [← List.append_assoc, ← List.append_assoc]
  exact List.Perm.append_right s List.perm_append_comm
theorem pmq (w a c : va_W) : List.Perm (w ++ (a ++ c)) ((a ++ w) ++ c) := by
  rw [← List.append_assoc]
  exact List.Perm.append_right c List.perm_append_comm
section NEWC
variable {tp : Nat → Int32} {kwd : Nat → Int64} {yh : Bool} {nm : Rnm} {yy y0 y1 : Nat → Nat} {y2 : Nat → Int32} {y3 y4 y5 y6 yU yM yD yS : Nat → Nat} {yK : Nat → Bool} {tk : Tk}
theorem nc_hd (hR : RI (yh, nm, yy, (y0, y1, y2, y3, y4, y5, y6), (yU, yM, yD, yS, yK), tk)) (hM : 0 < yy 3 ∧ 0 < yy 4) : yh = true := by
  cases hy : yh with
  | true => rfl
  | false =>
    have h9 : yy 3 = 0 := (hR.2.2.2.1 hy).1
    have := hM.1
    omega
theorem nc_F6 {z4 : Nat → Nat} {o : Nat} (hb : byT tp) (hk : ∀ s, s < 6 → kwd s = lN (pkS 27 s)) (hz : ∀ c, z4 c ≤ 40) (ho : o < 16) (hR : RI (yh, nm, yy, (y0, y1, y2, y3, y4, y5, y6), (yU, yM, yD, yS, yK), tk)) (hM : 0 < yy 3 ∧ 0 < yy 4) : F6 0 tp kwd z4 yy y4 (stF (yy 0) y3 y4 (yy 5)).1 (wtF yy y5 y6 yM yD yS yK (stF (yy 0) y3 y4 (yy 5)).1 (stF (yy 0) y3 y4 (yy 5)).2 yU) yD yS (stF (yy 0) y3 y4 (yy 5)).1 0 o 0 0 := by
  have hh := nc_hd hR hM
  obtain ⟨hn, hc, hd, hhd⟩ := hR
  have h1 : yy 0 ≤ 9 ∧ yy 1 ≤ 100 ∧ yy 2 ≤ 100 := hhd.2 hh
  have h3 : yy 3 ≤ 4 := hn.2.1
  have h4 : yy 4 ≤ 6 := hn.2.2.1
  have h5 : yy 5 ≤ 8 := hn.2.2.2.1
  have h6 : yy 6 ≤ 5 := hd.1
  have h7 : yy 7 ≤ 6 := hd.2.2.2.1
  have hi : ∀ c, y4 c ≤ 40 := hc.1
  refine ⟨Nat.zero_le _, hb, hk, hz, hi, fun c => stF_le hi _ c, fun s => wtF_le h1.2.1 h7 s, fun i hi2 => (hd.2.2.2.2 i hi2).2.1, fun i hi2 => ?_, fun c => stF_le hi _ c, by decide, ho, Nat.zero_le _, Nat.zero_le _, h1.1, h1.2.1, h1.2.2, h3, h4, h5, h6, h7⟩
  exact Nat.lt_of_lt_of_le (hd.2.2.2.2 i hi2).2.2 (pow64 h4)
theorem nc_GP {o : Nat} {pk pj pp pj8 : Nat → Pv} (hR : RI (yh, nm, yy, (y0, y1, y2, y3, y4, y5, y6), (yU, yM, yD, yS, yK), tk)) : GP yy ((stF (yy 0) y3 y4 (yy 5)).1, (stF (yy 0) y3 y4 (yy 5)).2, 0, 0) o 0 0 pk pj pp pj8 := by
  have hi : ∀ c, y4 c ≤ 40 := hR.2.1.1
  exact ⟨⟨fun c => stF_le hi _ c, fun c hc => stF_z _ c hc, fun c hc => stF_m _ c hc, show 0 < 256 by decide, Nat.zero_le _⟩, fun i h => absurd h (Nat.not_lt_zero i), fun i h => absurd h (Nat.not_lt_zero i)⟩
theorem nc_G8 {kp nc : Nat} {na : Nat → Int64} {ns nu gm gi gf go_ : Nat → Nat} {gt_ : Nat → Int32} {un d1 d2_ d3 : Nat → Nat} {bl : Int32} {cy8 : Nat → Nat} (hR : RI (yh, nm, yy, (y0, y1, y2, y3, y4, y5, y6), (yU, yM, yD, yS, yK), tk)) (hM : 0 < yy 3 ∧ 0 < yy 4) (hS : RS yh nm yy (y0, y1, y2, y3, y4, y5, y6) (yU, yM, yD, yS, yK) bl cy8 kp nc na ns nu gm gi gf go_ gt_ un d1 d2_ d3) : G8 yy y0 y1 y2 y3 y4 y5 y6 yU yM yD yS yK (stF (yy 0) y3 y4 (yy 5)).1 (stF (yy 0) y3 y4 (yy 5)).2 (wtF yy y5 y6 yM yD yS yK (stF (yy 0) y3 y4 (yy 5)).1 (stF (yy 0) y3 y4 (yy 5)).2 yU) gm gi gf go_ gt_ un d1 d2_ d3 kp :=
  ⟨hM.1, hM.2, hR.2.1, hR.2.2.1, hS.2.2.2.1, hS.2.2.2.2.1, hS.2.2.2.2.2.2, hS.2.2.2.2.2.1, rfl, rfl⟩
end NEWC
theorem pmb (w o a : va_W) : List.Perm ((w ++ o) ++ a) ((a ++ w) ++ o) := by
  rw [List.append_assoc]
  refine (List.Perm.append_left w List.perm_append_comm).trans ?_
  rw [← List.append_assoc]
  exact List.Perm.append_right o List.perm_append_comm
theorem pmA (A B b2 b3 b4 c2 c3 c4 p : va_W) : List.Perm (p ++ (A ++ (c2 ++ (c3 ++ (c4 ++ (B ++ (b2 ++ (b3 ++ b4)))))))) (p ++ (A ++ (B ++ (c2 ++ (b2 ++ (c3 ++ (b3 ++ (c4 ++ b4)))))))) := by
  refine (show List.Perm (p ++ (A ++ (c2 ++ (c3 ++ (c4 ++ (B ++ (b2 ++ (b3 ++ b4)))))))) (p ++ (A ++ (c2 ++ (c3 ++ (B ++ (c4 ++ (b2 ++ (b3 ++ b4)))))))) from List.Perm.append_left p (List.Perm.append_left A (List.Perm.append_left c2 (List.Perm.append_left c3 (List.perm_append_comm_assoc c4 B (b2 ++ (b3 ++ b4))))))).trans ?_
  refine (show List.Perm (p ++ (A ++ (c2 ++ (c3 ++ (B ++ (c4 ++ (b2 ++ (b3 ++ b4)))))))) (p ++ (A ++ (c2 ++ (B ++ (c3 ++ (c4 ++ (b2 ++ (b3 ++ b4)))))))) from List.Perm.append_left p (List.Perm.append_left A (List.Perm.append_left c2 (List.perm_append_comm_assoc c3 B (c4 ++ (b2 ++ (b3 ++ b4))))))).trans ?_
  refine (show List.Perm (p ++ (A ++ (c2 ++ (B ++ (c3 ++ (c4 ++ (b2 ++ (b3 ++ b4)))))))) (p ++ (A ++ (B ++ (c2 ++ (c3 ++ (c4 ++ (b2 ++ (b3 ++ b4)))))))) from List.Perm.append_left p (List.Perm.append_left A (List.perm_append_comm_assoc c2 B (c3 ++ (c4 ++ (b2 ++ (b3 ++ b4))))))).trans ?_
  refine (show List.Perm (p ++ (A ++ (B ++ (c2 ++ (c3 ++ (c4 ++ (b2 ++ (b3 ++ b4)))))))) (p ++ (A ++ (B ++ (c2 ++ (c3 ++ (b2 ++ (c4 ++ (b3 ++ b4)))))))) from List.Perm.append_left p (List.Perm.append_left A (List.Perm.append_left B (List.Perm.append_left c2 (List.Perm.append_left c3 (List.perm_append_comm_assoc c4 b2 (b3 ++ b4))))))).trans ?_
  refine (show List.Perm (p ++ (A ++ (B ++ (c2 ++ (c3 ++ (b2 ++ (c4 ++ (b3 ++ b4)))))))) (p ++ (A ++ (B ++ (c2 ++ (b2 ++ (c3 ++ (c4 ++ (b3 ++ b4)))))))) from List.Perm.append_left p (List.Perm.append_left A (List.Perm.append_left B (List.Perm.append_left c2 (List.perm_append_comm_assoc c3 b2 (c4 ++ (b3 ++ b4))))))).trans ?_
  refine (show List.Perm (p ++ (A ++ (B ++ (c2 ++ (b2 ++ (c3 ++ (c4 ++ (b3 ++ b4)))))))) (p ++ (A ++ (B ++ (c2 ++ (b2 ++ (c3 ++ (b3 ++ (c4 ++ b4)))))))) from List.Perm.append_left p (List.Perm.append_left A (List.Perm.append_left B (List.Perm.append_left c2 (List.Perm.append_left b2 (List.Perm.append_left c3 (List.perm_append_comm_assoc c4 b3 (b4)))))))).trans ?_
  exact List.Perm.refl _
theorem pmB (A B b2 b3 b4 c2 c3 c4 p : va_W) : List.Perm (B ++ (b2 ++ (b3 ++ (b4 ++ (p ++ (A ++ (c2 ++ (c3 ++ c4)))))))) (p ++ (B ++ (A ++ (c2 ++ (b2 ++ (c3 ++ (b3 ++ (c4 ++ b4)))))))) := by
  refine (show List.Perm (B ++ (b2 ++ (b3 ++ (b4 ++ (p ++ (A ++ (c2 ++ (c3 ++ c4)))))))) (B ++ (b2 ++ (b3 ++ (p ++ (b4 ++ (A ++ (c2 ++ (c3 ++ c4)))))))) from List.Perm.append_left B (List.Perm.append_left b2 (List.Perm.append_left b3 (List.perm_append_comm_assoc b4 p (A ++ (c2 ++ (c3 ++ c4))))))).trans ?_
  refine (show List.Perm (B ++ (b2 ++ (b3 ++ (p ++ (b4 ++ (A ++ (c2 ++ (c3 ++ c4)))))))) (B ++ (b2 ++ (p ++ (b3 ++ (b4 ++ (A ++ (c2 ++ (c3 ++ c4)))))))) from List.Perm.append_left B (List.Perm.append_left b2 (List.perm_append_comm_assoc b3 p (b4 ++ (A ++ (c2 ++ (c3 ++ c4))))))).trans ?_
  refine (show List.Perm (B ++ (b2 ++ (p ++ (b3 ++ (b4 ++ (A ++ (c2 ++ (c3 ++ c4)))))))) (B ++ (p ++ (b2 ++ (b3 ++ (b4 ++ (A ++ (c2 ++ (c3 ++ c4)))))))) from List.Perm.append_left B (List.perm_append_comm_assoc b2 p (b3 ++ (b4 ++ (A ++ (c2 ++ (c3 ++ c4))))))).trans ?_
  refine (show List.Perm (B ++ (p ++ (b2 ++ (b3 ++ (b4 ++ (A ++ (c2 ++ (c3 ++ c4)))))))) (p ++ (B ++ (b2 ++ (b3 ++ (b4 ++ (A ++ (c2 ++ (c3 ++ c4)))))))) from List.perm_append_comm_assoc B p (b2 ++ (b3 ++ (b4 ++ (A ++ (c2 ++ (c3 ++ c4))))))).trans ?_
  refine (show List.Perm (p ++ (B ++ (b2 ++ (b3 ++ (b4 ++ (A ++ (c2 ++ (c3 ++ c4)))))))) (p ++ (B ++ (b2 ++ (b3 ++ (A ++ (b4 ++ (c2 ++ (c3 ++ c4)))))))) from List.Perm.append_left p (List.Perm.append_left B (List.Perm.append_left b2 (List.Perm.append_left b3 (List.perm_append_comm_assoc b4 A (c2 ++ (c3 ++ c4))))))).trans ?_
  refine (show List.Perm (p ++ (B ++ (b2 ++ (b3 ++ (A ++ (b4 ++ (c2 ++ (c3 ++ c4)))))))) (p ++ (B ++ (b2 ++ (A ++ (b3 ++ (b4 ++ (c2 ++ (c3 ++ c4)))))))) from List.Perm.append_left p (List.Perm.append_left B (List.Perm.append_left b2 (List.perm_append_comm_assoc b3 A (b4 ++ (c2 ++ (c3 ++ c4))))))).trans ?_
  refine (show List.Perm (p ++ (B ++ (b2 ++ (A ++ (b3 ++ (b4 ++ (c2 ++ (c3 ++ c4)))))))) (p ++ (B ++ (A ++ (b2 ++ (b3 ++ (b4 ++ (c2 ++ (c3 ++ c4)))))))) from List.Perm.append_left p (List.Perm.append_left B (List.perm_append_comm_assoc b2 A (b3 ++ (b4 ++ (c2 ++ (c3 ++ c4))))))).trans ?_
  refine (show List.Perm (p ++ (B ++ (A ++ (b2 ++ (b3 ++ (b4 ++ (c2 ++ (c3 ++ c4)))))))) (p ++ (B ++ (A ++ (b2 ++ (b3 ++ (c2 ++ (b4 ++ (c3 ++ c4)))))))) from List.Perm.append_left p (List.Perm.append_left B (List.Perm.append_left A (List.Perm.append_left b2 (List.Perm.append_left b3 (List.perm_append_comm_assoc b4 c2 (c3 ++ c4))))))).trans ?_
  refine (show List.Perm (p ++ (B ++ (A ++ (b2 ++ (b3 ++ (c2 ++ (b4 ++ (c3 ++ c4)))))))) (p ++ (B ++ (A ++ (b2 ++ (c2 ++ (b3 ++ (b4 ++ (c3 ++ c4)))))))) from List.Perm.append_left p (List.Perm.append_left B (List.Perm.append_left A (List.Perm.append_left b2 (List.perm_append_comm_assoc b3 c2 (b4 ++ (c3 ++ c4))))))).trans ?_
  refine (show List.Perm (p ++ (B ++ (A ++ (b2 ++ (c2 ++ (b3 ++ (b4 ++ (c3 ++ c4)))))))) (p ++ (B ++ (A ++ (c2 ++ (b2 ++ (b3 ++ (b4 ++ (c3 ++ c4)))))))) from List.Perm.append_left p (List.Perm.append_left B (List.Perm.append_left A (List.perm_append_comm_assoc b2 c2 (b3 ++ (b4 ++ (c3 ++ c4))))))).trans ?_
  refine (show List.Perm (p ++ (B ++ (A ++ (c2 ++ (b2 ++ (b3 ++ (b4 ++ (c3 ++ c4)))))))) (p ++ (B ++ (A ++ (c2 ++ (b2 ++ (b3 ++ (c3 ++ (b4 ++ c4)))))))) from List.Perm.append_left p (List.Perm.append_left B (List.Perm.append_left A (List.Perm.append_left c2 (List.Perm.append_left b2 (List.Perm.append_left b3 (List.perm_append_comm_assoc b4 c3 (c4)))))))).trans ?_
  refine (show List.Perm (p ++ (B ++ (A ++ (c2 ++ (b2 ++ (b3 ++ (c3 ++ (b4 ++ c4)))))))) (p ++ (B ++ (A ++ (c2 ++ (b2 ++ (c3 ++ (b3 ++ (b4 ++ c4)))))))) from List.Perm.append_left p (List.Perm.append_left B (List.Perm.append_left A (List.Perm.append_left c2 (List.Perm.append_left b2 (List.perm_append_comm_assoc b3 c3 (b4 ++ c4))))))).trans ?_
  refine (show List.Perm (p ++ (B ++ (A ++ (c2 ++ (b2 ++ (c3 ++ (b3 ++ (b4 ++ c4)))))))) (p ++ (B ++ (A ++ (c2 ++ (b2 ++ (c3 ++ (b3 ++ (c4 ++ b4)))))))) from List.Perm.append_left p (List.Perm.append_left B (List.Perm.append_left A (List.Perm.append_left c2 (List.Perm.append_left b2 (List.Perm.append_left c3 (List.Perm.append_left b3 (List.perm_append_comm)))))))).trans ?_
  exact List.Perm.refl _
theorem pmC (A B b2 b3 b4 c2 c3 c4 p : va_W) : List.Perm (B ++ (b2 ++ (b3 ++ (b4 ++ (p ++ (A ++ (c2 ++ (c3 ++ c4)))))))) (p ++ (A ++ (B ++ (c2 ++ (b2 ++ (c3 ++ (b3 ++ (c4 ++ b4)))))))) := by
  refine (show List.Perm (B ++ (b2 ++ (b3 ++ (b4 ++ (p ++ (A ++ (c2 ++ (c3 ++ c4)))))))) (B ++ (b2 ++ (b3 ++ (p ++ (b4 ++ (A ++ (c2 ++ (c3 ++ c4)))))))) from List.Perm.append_left B (List.Perm.append_left b2 (List.Perm.append_left b3 (List.perm_append_comm_assoc b4 p (A ++ (c2 ++ (c3 ++ c4))))))).trans ?_
  refine (show List.Perm (B ++ (b2 ++ (b3 ++ (p ++ (b4 ++ (A ++ (c2 ++ (c3 ++ c4)))))))) (B ++ (b2 ++ (p ++ (b3 ++ (b4 ++ (A ++ (c2 ++ (c3 ++ c4)))))))) from List.Perm.append_left B (List.Perm.append_left b2 (List.perm_append_comm_assoc b3 p (b4 ++ (A ++ (c2 ++ (c3 ++ c4))))))).trans ?_
  refine (show List.Perm (B ++ (b2 ++ (p ++ (b3 ++ (b4 ++ (A ++ (c2 ++ (c3 ++ c4)))))))) (B ++ (p ++ (b2 ++ (b3 ++ (b4 ++ (A ++ (c2 ++ (c3 ++ c4)))))))) from List.Perm.append_left B (List.perm_append_comm_assoc b2 p (b3 ++ (b4 ++ (A ++ (c2 ++ (c3 ++ c4))))))).trans ?_
  refine (show List.Perm (B ++ (p ++ (b2 ++ (b3 ++ (b4 ++ (A ++ (c2 ++ (c3 ++ c4)))))))) (p ++ (B ++ (b2 ++ (b3 ++ (b4 ++ (A ++ (c2 ++ (c3 ++ c4)))))))) from List.perm_append_comm_assoc B p (b2 ++ (b3 ++ (b4 ++ (A ++ (c2 ++ (c3 ++ c4))))))).trans ?_
  refine (show List.Perm (p ++ (B ++ (b2 ++ (b3 ++ (b4 ++ (A ++ (c2 ++ (c3 ++ c4)))))))) (p ++ (B ++ (b2 ++ (b3 ++ (A ++ (b4 ++ (c2 ++ (c3 ++ c4)))))))) from List.Perm.append_left p (List.Perm.append_left B (List.Perm.append_left b2 (List.Perm.append_left b3 (List.perm_append_comm_assoc b4 A (c2 ++ (c3 ++ c4))))))).trans ?_
  refine (show List.Perm (p ++ (B ++ (b2 ++ (b3 ++ (A ++ (b4 ++ (c2 ++ (c3 ++ c4)))))))) (p ++ (B ++ (b2 ++ (A ++ (b3 ++ (b4 ++ (c2 ++ (c3 ++ c4)))))))) from List.Perm.append_left p (List.Perm.append_left B (List.Perm.append_left b2 (List.perm_append_comm_assoc b3 A (b4 ++ (c2 ++ (c3 ++ c4))))))).trans ?_
  refine (show List.Perm (p ++ (B ++ (b2 ++ (A ++ (b3 ++ (b4 ++ (c2 ++ (c3 ++ c4)))))))) (p ++ (B ++ (A ++ (b2 ++ (b3 ++ (b4 ++ (c2 ++ (c3 ++ c4)))))))) from List.Perm.append_left p (List.Perm.append_left B (List.perm_append_comm_assoc b2 A (b3 ++ (b4 ++ (c2 ++ (c3 ++ c4))))))).trans ?_
  refine (show List.Perm (p ++ (B ++ (A ++ (b2 ++ (b3 ++ (b4 ++ (c2 ++ (c3 ++ c4)))))))) (p ++ (A ++ (B ++ (b2 ++ (b3 ++ (b4 ++ (c2 ++ (c3 ++ c4)))))))) from List.Perm.append_left p (List.perm_append_comm_assoc B A (b2 ++ (b3 ++ (b4 ++ (c2 ++ (c3 ++ c4))))))).trans ?_
  refine (show List.Perm (p ++ (A ++ (B ++ (b2 ++ (b3 ++ (b4 ++ (c2 ++ (c3 ++ c4)))))))) (p ++ (A ++ (B ++ (b2 ++ (b3 ++ (c2 ++ (b4 ++ (c3 ++ c4)))))))) from List.Perm.append_left p (List.Perm.append_left A (List.Perm.append_left B (List.Perm.append_left b2 (List.Perm.append_left b3 (List.perm_append_comm_assoc b4 c2 (c3 ++ c4))))))).trans ?_
  refine (show List.Perm (p ++ (A ++ (B ++ (b2 ++ (b3 ++ (c2 ++ (b4 ++ (c3 ++ c4)))))))) (p ++ (A ++ (B ++ (b2 ++ (c2 ++ (b3 ++ (b4 ++ (c3 ++ c4)))))))) from List.Perm.append_left p (List.Perm.append_left A (List.Perm.append_left B (List.Perm.append_left b2 (List.perm_append_comm_assoc b3 c2 (b4 ++ (c3 ++ c4))))))).trans ?_
  refine (show List.Perm (p ++ (A ++ (B ++ (b2 ++ (c2 ++ (b3 ++ (b4 ++ (c3 ++ c4)))))))) (p ++ (A ++ (B ++ (c2 ++ (b2 ++ (b3 ++ (b4 ++ (c3 ++ c4)))))))) from List.Perm.append_left p (List.Perm.append_left A (List.Perm.append_left B (List.perm_append_comm_assoc b2 c2 (b3 ++ (b4 ++ (c3 ++ c4))))))).trans ?_
  refine (show List.Perm (p ++ (A ++ (B ++ (c2 ++ (b2 ++ (b3 ++ (b4 ++ (c3 ++ c4)))))))) (p ++ (A ++ (B ++ (c2 ++ (b2 ++ (b3 ++ (c3 ++ (b4 ++ c4)))))))) from List.Perm.append_left p (List.Perm.append_left A (List.Perm.append_left B (List.Perm.append_left c2 (List.Perm.append_left b2 (List.Perm.append_left b3 (List.perm_append_comm_assoc b4 c3 (c4)))))))).trans ?_
  refine (show List.Perm (p ++ (A ++ (B ++ (c2 ++ (b2 ++ (b3 ++ (c3 ++ (b4 ++ c4)))))))) (p ++ (A ++ (B ++ (c2 ++ (b2 ++ (c3 ++ (b3 ++ (b4 ++ c4)))))))) from List.Perm.append_left p (List.Perm.append_left A (List.Perm.append_left B (List.Perm.append_left c2 (List.Perm.append_left b2 (List.perm_append_comm_assoc b3 c3 (b4 ++ c4))))))).trans ?_
  refine (show List.Perm (p ++ (A ++ (B ++ (c2 ++ (b2 ++ (c3 ++ (b3 ++ (b4 ++ c4)))))))) (p ++ (A ++ (B ++ (c2 ++ (b2 ++ (c3 ++ (b3 ++ (c4 ++ b4)))))))) from List.Perm.append_left p (List.Perm.append_left A (List.Perm.append_left B (List.Perm.append_left c2 (List.Perm.append_left b2 (List.Perm.append_left c3 (List.Perm.append_left b3 (List.perm_append_comm)))))))).trans ?_
  exact List.Perm.refl _
