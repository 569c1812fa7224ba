/-! the start: the strings, the statics, what holds everywhere -/
def ssC (tm : Term) (b : List Int32) : List Cond := Cond.exactly tm "java/lang/String" :: Cond.eq (.field tm "java/lang/String" "coder" "B") (.int 0) :: Cond.arrayOf (.field tm "java/lang/String" "value" "[B") .byte :: Cond.eq (.length (.field tm "java/lang/String" "value" "[B")) (.int (Int32.ofNat b.length)) :: (List.range b.length).map (fun j => Cond.eq (.elem (.field tm "java/lang/String" "value" "[B") (.int (Int32.ofNat j))) (.int (b.getD j 0)))
def ssP (tm : Term) (b : List Int32) (args : Array Value) (s : State) (A : Nat → Prop) (q : Nat × Nat) : Prop := tm.eval args s none [] s = some (.ref q.1) ∧ va_O "java/lang/String" q.1 A s s.heap ∧ va_OF "java/lang/String" "coder" "B" (.int 0) q.1 A s s.heap ∧ va_OF "java/lang/String" "value" "[B" (.ref q.2) q.1 A s s.heap ∧ va_T .byte q.2 b.length (fun j => .int (b.getD j 0)) A s s.heap
theorem ss_of {args : Array Value} {s : State} {tm : Term} {b : List Int32} {A : Nat → Prop} (hN : b.length < 2 ^ 31) (h : ∀ w ∈ ssC tm b, w.before args s = true) (hA : ∀ a : Nat, a < s.heap.size → ¬ A a) : ∃ q : Nat × Nat, ssP tm b args s A q := by
  have h0 := h _ List.mem_cons_self
  have h1 := h _ (List.mem_cons_of_mem _ List.mem_cons_self)
  have h2 := h _ (List.mem_cons_of_mem _ (List.mem_cons_of_mem _ List.mem_cons_self))
  have h3 := h _ (List.mem_cons_of_mem _ (List.mem_cons_of_mem _ (List.mem_cons_of_mem _ List.mem_cons_self)))
  have h4 : ∀ j : Nat, j < b.length → (Cond.eq (.elem (.field tm "java/lang/String" "value" "[B") (.int (Int32.ofNat j))) (.int (b.getD j 0))).before args s = true := fun j hj => h _ (List.mem_cons_of_mem _ (List.mem_cons_of_mem _ (List.mem_cons_of_mem _ (List.mem_cons_of_mem _ (List.mem_map.mpr ⟨j, List.mem_range.mpr hj, rfl⟩)))))
  obtain ⟨a, c, cA, kA, q1, q2, q3, q4, q5, q6, -⟩ := Cond.exactly_spec (args := args) (first := s) (o := none) (s := s) (idx := []) (t := tm) (cls := "java/lang/String") h0
  obtain ⟨t, ht, hT⟩ := va_Tof (f := fun j => .int (b.getD j 0)) (A := A) hN h2 (va_eqt h3) (fun j hj => va_eqt (h4 j hj)) hA
  exact ⟨(a, t), q1, ⟨cA, q3, q5, by rw [q6]; exact q2, hA a (Array.getElem?_eq_some_iff.mp q3).1⟩, vk_OFof q1 (va_eqt h1) hA, vk_OFof q1 ht hA, hT⟩
def st_ix : List Nat := [26, 32, 34, 36, 38, 40, 176, 186, 190, 198, 203, 212, 214, 216, 218, 220, 222, 231, 233, 235]
def st_tm (i : Nat) : Term := .string "CheekClause$Reader" (st_ix.getD i 0)
theorem ss_sub {T : Cond} {l : List Cond} {n m : Nat} (h : l = ((flatC T).drop n).take m) {args : Array Value} {s : State} (hs : ∀ w ∈ flatC T, w.before args s = true) : ∀ w ∈ l, w.before args s = true := by
  intro w hw
  rw [h] at hw
  exact hs w (List.mem_of_mem_drop (List.mem_of_mem_take hw))
theorem ss_0 : ssC (st_tm 0) (st_tx.getD 0 []) = ((flatC narrow_1).drop 27).take 8 := by decide +kernel
theorem ss_1 : ssC (st_tm 1) (st_tx.getD 1 []) = ((flatC narrow_1).drop 35).take 7 := by decide +kernel
theorem ss_2 : ssC (st_tm 2) (st_tx.getD 2 []) = ((flatC narrow_1).drop 42).take 8 := by decide +kernel
theorem ss_3 : ssC (st_tm 3) (st_tx.getD 3 []) = ((flatC narrow_1).drop 50).take 10 := by decide +kernel
theorem ss_4 : ssC (st_tm 4) (st_tx.getD 4 []) = ((flatC narrow_1).drop 60).take 10 := by decide +kernel
theorem ss_5 : ssC (st_tm 5) (st_tx.getD 5 []) = ((flatC narrow_1).drop 70).take 7 := by decide +kernel
theorem ss_6 : ssC (st_tm 6) (st_tx.getD 6 []) = ((flatC narrow_1).drop 77).take 8 := by decide +kernel
theorem ss_7 : ssC (st_tm 7) (st_tx.getD 7 []) = ((flatC narrow_1).drop 85).take 9 := by decide +kernel
theorem ss_8 : ssC (st_tm 8) (st_tx.getD 8 []) = ((flatC narrow_1).drop 94).take 8 := by decide +kernel
theorem ss_9 : ssC (st_tm 9) (st_tx.getD 9 []) = ((flatC narrow_1).drop 102).take 6 := by decide +kernel
theorem ss_10 : ssC (st_tm 10) (st_tx.getD 10 []) = ((flatC narrow_1).drop 108).take 7 := by decide +kernel
theorem ss_11 : ssC (st_tm 11) (st_tx.getD 11 []) = ((flatC narrow_1).drop 115).take 8 := by decide +kernel
theorem ss_12 : ssC (st_tm 12) (st_tx.getD 12 []) = ((flatC narrow_1).drop 123).take 10 := by decide +kernel
theorem ss_13 : ssC (st_tm 13) (st_tx.getD 13 []) = ((flatC narrow_1).drop 133).take 6 := by decide +kernel
theorem ss_14 : ssC (st_tm 14) (st_tx.getD 14 []) = ((flatC narrow_1).drop 139).take 10 := by decide +kernel
theorem ss_15 : ssC (st_tm 15) (st_tx.getD 15 []) = ((flatC narrow_1).drop 149).take 11 := by decide +kernel
theorem ss_16 : ssC (st_tm 16) (st_tx.getD 16 []) = ((flatC narrow_1).drop 160).take 10 := by decide +kernel
theorem ss_17 : ssC (st_tm 17) (st_tx.getD 17 []) = ((flatC narrow_1).drop 170).take 7 := by decide +kernel
theorem ss_18 : ssC (st_tm 18) (st_tx.getD 18 []) = ((flatC narrow_1).drop 177).take 8 := by decide +kernel
theorem ss_19 : ssC (st_tm 19) (st_tx.getD 19 []) = ((flatC narrow_1).drop 185).take 10 := by decide +kernel
theorem ss_all {args : Array Value} {s : State} (hs : ∀ w ∈ flatC narrow_1, w.before args s = true) : ∀ i, i < 20 → ∀ w ∈ ssC (st_tm i) (st_tx.getD i []), w.before args s = true := by
  intro i hi
  rcases (show i = 0 ∨ i = 1 ∨ i = 2 ∨ i = 3 ∨ i = 4 ∨ i = 5 ∨ i = 6 ∨ i = 7 ∨ i = 8 ∨ i = 9 ∨ i = 10 ∨ i = 11 ∨ i = 12 ∨ i = 13 ∨ i = 14 ∨ i = 15 ∨ i = 16 ∨ i = 17 ∨ i = 18 ∨ i = 19 by omega) with rfl | rfl | rfl | rfl | rfl | rfl | rfl | rfl | rfl | rfl | rfl | rfl | rfl | rfl | rfl | rfl | rfl | rfl | rfl | rfl
  · exact ss_sub ss_0 hs
  · exact ss_sub ss_1 hs
  · exact ss_sub ss_2 hs
  · exact ss_sub ss_3 hs
  · exact ss_sub ss_4 hs
  · exact ss_sub ss_5 hs
  · exact ss_sub ss_6 hs
  · exact ss_sub ss_7 hs
  · exact ss_sub ss_8 hs
  · exact ss_sub ss_9 hs
  · exact ss_sub ss_10 hs
  · exact ss_sub ss_11 hs
  · exact ss_sub ss_12 hs
  · exact ss_sub ss_13 hs
  · exact ss_sub ss_14 hs
  · exact ss_sub ss_15 hs
  · exact ss_sub ss_16 hs
  · exact ss_sub ss_17 hs
  · exact ss_sub ss_18 hs
  · exact ss_sub ss_19 hs
theorem st_lnB : ∀ i, i < 20 → (st_tx.getD i []).length < 2 ^ 31 := by decide +kernel
theorem ev_refs {args : Array Value} {s : State} {K : Nat → Nat} (hts : ∀ w ∈ lw_tbl, w.before args s = true) (hs : ∀ w ∈ flatC narrow_1, w.before args s = true) (he : ∀ i, i < 20 → (st_tm i).eval args s none [] s = some (.ref (K i))) : ∀ q ∈ st_refs, vk_R q.1 q.2.1 q.2.2.1 (K q.2.2.2) s := by
  unfold st_refs
  exact List.forall_mem_cons.mpr ⟨vk_R.of (hts _ (tm1 (List.mem_of_getElem? (i := 35) (by decide +kernel)))) (he 0 (by decide)), List.forall_mem_cons.mpr ⟨vk_R.of (hts _ (tm1 (List.mem_of_getElem? (i := 88) (by decide +kernel)))) (he 1 (by decide)), List.forall_mem_cons.mpr ⟨vk_R.of (hts _ (tm1 (List.mem_of_getElem? (i := 89) (by decide +kernel)))) (he 2 (by decide)), List.forall_mem_cons.mpr ⟨vk_R.of (hts _ (tm1 (List.mem_of_getElem? (i := 90) (by decide +kernel)))) (he 3 (by decide)), List.forall_mem_cons.mpr ⟨vk_R.of (hts _ (tm1 (List.mem_of_getElem? (i := 91) (by decide +kernel)))) (he 4 (by decide)), List.forall_mem_cons.mpr ⟨vk_R.of (hts _ (tm1 (List.mem_of_getElem? (i := 92) (by decide +kernel)))) (he 5 (by decide)), List.forall_mem_cons.mpr ⟨vk_R.of (hts _ (tm2 (List.mem_of_getElem? (i := 167) (by decide +kernel)))) (he 6 (by decide)), List.forall_mem_cons.mpr ⟨vk_R.of (hts _ (tm2 (List.mem_of_getElem? (i := 184) (by decide +kernel)))) (he 7 (by decide)), List.forall_mem_cons.mpr ⟨vk_R.of (hts _ (tm2 (List.mem_of_getElem? (i := 185) (by decide +kernel)))) (he 8 (by decide)), List.forall_mem_cons.mpr ⟨vk_R.of (hts _ (tm2 (List.mem_of_getElem? (i := 210) (by decide +kernel)))) (he 9 (by decide)), List.forall_mem_cons.mpr ⟨vk_R.of (hts _ (tm2 (List.mem_of_getElem? (i := 218) (by decide +kernel)))) (he 10 (by decide)), List.forall_mem_cons.mpr ⟨vk_R.of (hts _ (tm2 (List.mem_of_getElem? (i := 223) (by decide +kernel)))) (he 11 (by decide)), List.forall_mem_cons.mpr ⟨vk_R.of (hts _ (tm2 (List.mem_of_getElem? (i := 224) (by decide +kernel)))) (he 12 (by decide)), List.forall_mem_cons.mpr ⟨vk_R.of (hts _ (tm2 (List.mem_of_getElem? (i := 225) (by decide +kernel)))) (he 13 (by decide)), List.forall_mem_cons.mpr ⟨vk_R.of (hts _ (tm2 (List.mem_of_getElem? (i := 226) (by decide +kernel)))) (he 14 (by decide)), List.forall_mem_cons.mpr ⟨vk_R.of (hts _ (tm2 (List.mem_of_getElem? (i := 227) (by decide +kernel)))) (he 15 (by decide)), List.forall_mem_cons.mpr ⟨vk_R.of (hts _ (tm2 (List.mem_of_getElem? (i := 228) (by decide +kernel)))) (he 16 (by decide)), List.forall_mem_cons.mpr ⟨vk_R.of (hts _ (tm3 (List.mem_of_getElem? (i := 26) (by decide +kernel)))) (he 17 (by decide)), List.forall_mem_cons.mpr ⟨vk_R.of (hts _ (tm3 (List.mem_of_getElem? (i := 27) (by decide +kernel)))) (he 18 (by decide)), List.forall_mem_cons.mpr ⟨vk_R.of (hts _ (tm3 (List.mem_of_getElem? (i := 28) (by decide +kernel)))) (he 19 (by decide)), List.forall_mem_cons.mpr ⟨vk_R.of (hts _ (tm6 (List.mem_of_getElem? (i := 48) (by decide +kernel)))) (va_eqR (hs _ (List.mem_of_getElem? (i := 242) (by decide +kernel))) (he 0 (by decide))), List.forall_mem_cons.mpr ⟨vk_R.of (hts _ (tm6 (List.mem_of_getElem? (i := 80) (by decide +kernel)))) (va_eqR (hs _ (List.mem_of_getElem? (i := 278) (by decide +kernel))) (he 1 (by decide))), List.forall_mem_cons.mpr ⟨vk_R.of (hts _ (tm6 (List.mem_of_getElem? (i := 97) (by decide +kernel)))) (va_eqR (hs _ (List.mem_of_getElem? (i := 287) (by decide +kernel))) (he 2 (by decide))), List.forall_mem_cons.mpr ⟨vk_R.of (hts _ (tm6 (List.mem_of_getElem? (i := 98) (by decide +kernel)))) (va_eqR (hs _ (List.mem_of_getElem? (i := 298) (by decide +kernel))) (he 3 (by decide))), List.forall_mem_cons.mpr ⟨vk_R.of (hts _ (tm6 (List.mem_of_getElem? (i := 99) (by decide +kernel)))) (va_eqR (hs _ (List.mem_of_getElem? (i := 309) (by decide +kernel))) (he 4 (by decide))), List.forall_mem_cons.mpr ⟨vk_R.of (hts _ (tm6 (List.mem_of_getElem? (i := 100) (by decide +kernel)))) (va_eqR (hs _ (List.mem_of_getElem? (i := 317) (by decide +kernel))) (he 5 (by decide))), List.forall_mem_cons.mpr ⟨vk_R.of (hts _ (tm6 (List.mem_of_getElem? (i := 66) (by decide +kernel)))) (va_eqR (hs _ (List.mem_of_getElem? (i := 251) (by decide +kernel))) (he 6 (by decide))), List.forall_mem_cons.mpr ⟨vk_R.of (hts _ (tm6 (List.mem_of_getElem? (i := 78) (by decide +kernel)))) (va_eqR (hs _ (List.mem_of_getElem? (i := 261) (by decide +kernel))) (he 7 (by decide))), List.forall_mem_cons.mpr ⟨vk_R.of (hts _ (tm6 (List.mem_of_getElem? (i := 79) (by decide +kernel)))) (va_eqR (hs _ (List.mem_of_getElem? (i := 270) (by decide +kernel))) (he 8 (by decide))), List.forall_mem_cons.mpr ⟨vk_R.of (hts _ (tm6 (List.mem_of_getElem? (i := 131) (by decide +kernel)))) (va_eqR (hs _ (List.mem_of_getElem? (i := 341) (by decide +kernel))) (he 11 (by decide))), List.forall_mem_cons.mpr ⟨vk_R.of (hts _ (tm6 (List.mem_of_getElem? (i := 132) (by decide +kernel)))) (va_eqR (hs _ (List.mem_of_getElem? (i := 352) (by decide +kernel))) (he 12 (by decide))), List.forall_mem_cons.mpr ⟨vk_R.of (hts _ (tm6 (List.mem_of_getElem? (i := 133) (by decide +kernel)))) (va_eqR (hs _ (List.mem_of_getElem? (i := 359) (by decide +kernel))) (he 13 (by decide))), List.forall_mem_cons.mpr ⟨vk_R.of (hts _ (tm6 (List.mem_of_getElem? (i := 134) (by decide +kernel)))) (va_eqR (hs _ (List.mem_of_getElem? (i := 370) (by decide +kernel))) (he 14 (by decide))), List.forall_mem_cons.mpr ⟨vk_R.of (hts _ (tm6 (List.mem_of_getElem? (i := 135) (by decide +kernel)))) (va_eqR (hs _ (List.mem_of_getElem? (i := 382) (by decide +kernel))) (he 15 (by decide))), List.forall_mem_cons.mpr ⟨vk_R.of (hts _ (tm6 (List.mem_of_getElem? (i := 136) (by decide +kernel)))) (va_eqR (hs _ (List.mem_of_getElem? (i := 393) (by decide +kernel))) (he 16 (by decide))), List.forall_mem_cons.mpr ⟨vk_R.of (hts _ (tm6 (List.mem_of_getElem? (i := 117) (by decide +kernel)))) (va_eqR (hs _ (List.mem_of_getElem? (i := 324) (by decide +kernel))) (he 9 (by decide))), List.forall_mem_cons.mpr ⟨vk_R.of (hts _ (tm6 (List.mem_of_getElem? (i := 126) (by decide +kernel)))) (va_eqR (hs _ (List.mem_of_getElem? (i := 332) (by decide +kernel))) (he 10 (by decide))), List.forall_mem_cons.mpr ⟨vk_R.of (hts _ (tm6 (List.mem_of_getElem? (i := 149) (by decide +kernel)))) (va_eqR (hs _ (List.mem_of_getElem? (i := 401) (by decide +kernel))) (he 17 (by decide))), List.forall_mem_cons.mpr ⟨vk_R.of (hts _ (tm6 (List.mem_of_getElem? (i := 150) (by decide +kernel)))) (va_eqR (hs _ (List.mem_of_getElem? (i := 410) (by decide +kernel))) (he 18 (by decide))), List.forall_mem_cons.mpr ⟨vk_R.of (hts _ (tm6 (List.mem_of_getElem? (i := 151) (by decide +kernel)))) (va_eqR (hs _ (List.mem_of_getElem? (i := 421) (by decide +kernel))) (he 19 (by decide))), fun _ h => absurd h List.not_mem_nil⟩⟩⟩⟩⟩⟩⟩⟩⟩⟩⟩⟩⟩⟩⟩⟩⟩⟩⟩⟩⟩⟩⟩⟩⟩⟩⟩⟩⟩⟩⟩⟩⟩⟩⟩⟩⟩⟩⟩⟩
theorem ns_in : nsX.all (fun w => decide (w ∈ tables_1)) = true := by decide +kernel
theorem lw_of_tables {w : Cond} (h : w ∈ tables_1) : w ∈ lw_tbl := List.mem_append_right _ h
def fK (r : Option Nat) (adK : Nat → Nat) : Nat → Nat := fun i => if i = 20 then (match r with | none => 0 | some a => a + 1) else adK i
theorem ev_start {s : State} {b : Nat} (hts : ∀ w ∈ lw_tbl, w.before #[Value.ref b] s = true) (hs : ∀ w ∈ flatC narrow_1, w.before #[Value.ref b] s = true) : ∃ E : Et, eb E = s.heap.size ∧ Ev E s s.heap ∧ Xv E s s.heap := by
  obtain ⟨D, hD⟩ := ev_cls hts
  have hAO : va_AO "CheekClause$Page" s := va_AO.of (hts _ (tm2 (List.mem_of_getElem? (i := 34) (by decide +kernel))))
  obtain ⟨eC0, hC⟩ := ev_arr hts hAO
  have hA : ∀ a : Nat, a < s.heap.size → ¬ (fun q : Nat => s.heap.size ≤ q) a := fun a h z => Nat.not_le.mpr h z
  have h0 : ∀ i : Nat, ∃ q : Nat × Nat, i < 20 → ssP (st_tm i) (st_tx.getD i []) #[Value.ref b] s (fun q : Nat => s.heap.size ≤ q) q := by
    intro i
    by_cases hi : i < 20
    · obtain ⟨q, hq⟩ := ss_of (st_lnB i hi) (ss_all hs i hi) hA
      exact ⟨q, fun _ => hq⟩
    · exact ⟨(0, 0), fun h => absurd h hi⟩
  obtain ⟨ad, had⟩ := Classical.axiomOfChoice h0
  obtain ⟨t, ht, hT⟩ := va_Tof (tm := .static "CheekClause$City" "SETS_WITH" "[J") (ty := .long) (N := 6) (f := fun j => .long (sw_tab.getD j 0)) (A := fun q : Nat => s.heap.size ≤ q) (by decide) (hs _ (List.mem_of_getElem? (i := 8) (by decide +kernel))) (va_eqt (hs _ (List.mem_of_getElem? (i := 9) (by decide +kernel)))) (fun j hj => by
    rcases (show j = 0 ∨ j = 1 ∨ j = 2 ∨ j = 3 ∨ j = 4 ∨ j = 5 by omega) with rfl | rfl | rfl | rfl | rfl | rfl
    · exact va_eqtl (hs _ (List.mem_of_getElem? (i := 10) (by decide +kernel)))
    · exact va_eqtl (hs _ (List.mem_of_getElem? (i := 11) (by decide +kernel)))
    · exact va_eqtl (hs _ (List.mem_of_getElem? (i := 12) (by decide +kernel)))
    · exact va_eqtl (hs _ (List.mem_of_getElem? (i := 13) (by decide +kernel)))
    · exact va_eqtl (hs _ (List.mem_of_getElem? (i := 14) (by decide +kernel)))
    · exact va_eqtl (hs _ (List.mem_of_getElem? (i := 15) (by decide +kernel)))) hA
  have hZ : va_Z "CheekClause$City" "SETS_WITH" "[J" (.ref t) (fun q : Nat => s.heap.size ≤ q) s s.heap := va_Zof (hts _ (tm2 (List.mem_of_getElem? (i := 237) (by decide +kernel)))) (hts _ (tm1 (List.mem_of_getElem? (i := 7) (by decide +kernel)))) ht hA
  have hCS : va_Z "java/lang/String" "COMPACT_STRINGS" "Z" (.int 1) (fun q : Nat => s.heap.size ≤ q) s s.heap := va_Zof (hts _ (tm1 (List.mem_of_getElem? (i := 48) (by decide +kernel)))) (hts _ (tm1 (List.mem_of_getElem? (i := 3) (by decide +kernel)))) (va_eqt (hs _ (List.mem_of_getElem? (i := 2) (by decide +kernel)))) hA
  obtain ⟨r, hr⟩ : ∃ r : Option Nat, va_Z "jdk/internal/util/Preconditions" "SIOOBE_FORMATTER" "Ljava/util/function/BiFunction;" (va_rf r) (fun q : Nat => s.heap.size ≤ q) s s.heap := by
    have hq : va_Zq "jdk/internal/util/Preconditions" "SIOOBE_FORMATTER" "Ljava/util/function/BiFunction;" (fun q : Nat => s.heap.size ≤ q) s s.heap := va_Zqof (hts _ (tm1 (List.mem_of_getElem? (i := 65) (by decide +kernel)))) (hts _ (tm1 (List.mem_of_getElem? (i := 5) (by decide +kernel)))) (hs _ (List.mem_of_getElem? (i := 3) (by decide +kernel))) hA
    rcases hq with h | ⟨a, h⟩
    · exact ⟨none, h⟩
    · exact ⟨some a, h⟩
  have hK : ∀ i, i < 20 → fK r (fun i => (ad i).1) i = (ad i).1 := fun i hi => if_neg (by omega)
  have hx296 : ∃ sa : Nat, (Term.string "CheekClause" 296).eval #[Value.ref b] s none [] s = some (.ref sa) := by
    obtain ⟨a, c, cA, kA, q1, -⟩ := Cond.exactly_spec (args := #[Value.ref b]) (first := s) (o := none) (s := s) (idx := []) (t := .string "CheekClause" 296) (cls := "java/lang/String") (hs _ (List.mem_of_getElem? (i := 195) (by decide +kernel)))
    exact ⟨a, q1⟩
  obtain ⟨sa, hsa⟩ := hx296
  refine ⟨(D, eC0, s.heap.size, fK r (fun i => (ad i).1), fun i => (ad i).2, t), rfl, ⟨⟨hD, hC⟩, fun w hw hok a => fr_move hok (State.WarmedH.refl s) (hts w hw), fun i hi => ?_, ev_refs hts hs (fun i hi => ?_), hZ, hT, hCS, hAO, ?_⟩, ⟨sa, vk_R.of (hts _ (tm5 (List.mem_of_getElem? (i := 38) (by decide +kernel)))) hsa⟩, vx_Zqof (hts _ (tm5 (List.mem_of_getElem? (i := 26) (by decide +kernel)))) (hts _ (tm1 (List.mem_of_getElem? (i := 17) (by decide +kernel)))) (hs _ (List.mem_of_getElem? (i := 16) (by decide +kernel))) hA, vx_Zqof (hts _ (tm5 (List.mem_of_getElem? (i := 28) (by decide +kernel)))) (hts _ (tm1 (List.mem_of_getElem? (i := 17) (by decide +kernel)))) (hs _ (List.mem_of_getElem? (i := 17) (by decide +kernel))) hA, fun w hw a => xw_move (List.all_eq_true.mp ns_all w hw) (State.WarmedH.refl s) (hts w (lw_of_tables (of_decide_eq_true (List.all_eq_true.mp ns_in w hw))))⟩
  · have h9 := (had i hi).2
    rw [← hK i hi] at h9
    exact h9
  · have h9 := (had i hi).1
    rw [← hK i hi] at h9
    exact h9
  · cases r with
    | none => exact hr
    | some a => exact hr
