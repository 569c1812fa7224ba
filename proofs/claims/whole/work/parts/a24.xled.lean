/-! led: what it throws; contracts of a method that throws it, and of one with a table -/
theorem xw_steady {w : Cond} (hs : w.steady = true) (ho : w.onTables = true) {s U : State} (hW : s.WarmedH U.vm) {a a' : Array Value} (h : w.before a s = true) : w.before a' U = true := by
  refine va_tabs ho (rfl : (s.setVm U.vm).vm = U.vm) (A := a) ?_
  have e := Cond.value_setVm₂ (args := a) (o := none) (s := s) hW.alike hW.alike w [] hs
  have h1 : (Cond.value a s none s [] w == some true) = true := h
  show (Cond.value a (s.setVm U.vm) none (s.setVm U.vm) [] w == some true) = true
  rw [e]
  exact h1
def xw_c : Cond → Bool
  | .castable _ _ => true
  | .declares _ => true
  | _ => false
def xw (w : Cond) : Bool := goodWord w || (w.steady && w.onTables) || xw_c w
theorem xw_move {w : Cond} (h : xw w = true) {s U : State} (hW : s.WarmedH U.vm) {a a' : Array Value} (hb : w.before a s = true) : w.before a' U = true := by
  unfold xw at h
  rcases Bool.or_eq_true _ _ |>.mp h with h | h
  · rcases Bool.or_eq_true _ _ |>.mp h with h | h
    · exact word_at hW (good_of_word h) hb
    · obtain ⟨h1, h2⟩ := Bool.and_eq_true _ _ |>.mp h
      exact xw_steady h1 h2 hW hb
  · cases w <;> first | (cases h; done) | exact va_Nw.use rfl (va_Nw.warmC hW (va_Nw.of rfl hb)) | exact va_Nw.use rfl (va_Nw.warmD hW (va_Nw.of rfl hb))
def nsN : String := "java/util/NoSuchElementException"
def nsT : String := "there is no such clause without ink"
def reN : String := "java/lang/RuntimeException"
def exN : String := "java/lang/Exception"
def sx13 : ByteArray := ⟨#[0x2a, 0x2b, 0xb7, 0x00, 0x0d, 0xb1]⟩
theorem sx13_0 : decode sx13 0 = .ok (.aload_n 0, 1) := by decide +kernel
theorem sx13_1 : decode sx13 1 = .ok (.aload_n 1, 1) := by decide +kernel
theorem sx13_2 : decode sx13 2 = .ok (.invokespecial 13, 3) := by decide +kernel
theorem sx13_5 : decode sx13 5 = .ok (.return_, 1) := by decide +kernel
/-- what a throw of it needs: its constructor calls the one above by the link 13, those above by 7 -/
def nsE : List Cond := [.methodLink RX6 298 (Bundle.initS nsN), .instantiable nsN 6, .castable nsN nsN, .selects nsN Bundle.tFill0 Bundle.tFill0, .selects nsN Bundle.tFill Bundle.tFill, .lays nsN Bundle.tN "cause" "Ljava/lang/Throwable;", .lays nsN Bundle.tN "stackTrace" Bundle.steD, .lays nsN Bundle.tN "suppressedExceptions" Bundle.listD, .lays nsN Bundle.tN "detailMessage" "Ljava/lang/String;", .isRef (.static Bundle.tN "UNASSIGNED_STACK" Bundle.steD), .isRef (.static Bundle.tN "SUPPRESSED_SENTINEL" Bundle.listD), .fieldLink Bundle.tN 198 Bundle.tN "backtrace" "Ljava/lang/Object;", .lays Bundle.tN Bundle.tN "backtrace" "Ljava/lang/Object;", .lays nsN Bundle.tN "backtrace" "Ljava/lang/Object;"]
def nsA : List Cond := Bundle.throwableAtoms ++ (Bundle.throwableSAtoms ++ (Bundle.passSAtoms nsN reN 13 sx13 ++ (Bundle.chainSAtoms reN [exN] ++ nsE)))
def nsL : List Cond := nsA.filter vx_no
theorem nsA_1 {w : Cond} (h : w ∈ Bundle.throwableAtoms) : w ∈ nsA := List.mem_append_left _ h
theorem nsA_2 {w : Cond} (h : w ∈ Bundle.throwableSAtoms) : w ∈ nsA := List.mem_append_right _ (List.mem_append_left _ h)
theorem nsA_3 {w : Cond} (h : w ∈ Bundle.passSAtoms nsN reN 13 sx13) : w ∈ nsA := List.mem_append_right _ (List.mem_append_right _ (List.mem_append_left _ h))
theorem nsA_4 {w : Cond} (h : w ∈ Bundle.chainSAtoms reN [exN]) : w ∈ nsA := List.mem_append_right _ (List.mem_append_right _ (List.mem_append_right _ (List.mem_append_left _ h)))
theorem nsA_5 {w : Cond} (i : Nat) (h : nsE[i]? = some w) : w ∈ nsA := List.mem_append_right _ (List.mem_append_right _ (List.mem_append_right _ (List.mem_append_right _ (List.mem_of_getElem? h))))
def nsW : List Cond := Cond.classLink RX6 294 nsN :: Cond.initialized nsN :: nsL
def nsX : List Cond := Cond.classLink RL 13 nsN :: nsW
theorem ns_all : nsX.all xw = true := by decide +kernel
theorem ns_ot : nsW.all vx_ot = true := by decide +kernel
theorem ns_self : Cond.castable nsN nsN ∈ nsL := List.mem_filter.mpr ⟨nsA_5 2 rfl, by decide +kernel⟩
section NSCT
variable {p : Program} {l : Launch} {e : Env} {R : Room} {s : State} {m₀ : MethodId} {args : Array Value} {below : List Frame} {meth : Method} {c : Code} {W1 : State} {locs : List Loc} {cells slots : Nat}
/-- its constructor runs (no traces kept) and it is thrown: the road is that of the library's ctorThrowS (JvmDerived/BundleOwnThrow.lean), whose words fix the link 7 -/
theorem ns_ctor (X : Stand p l e R s m₀ args below meth c W1 locs cells slots) (hexec : p.tables.exec = Jvm.exec) (htr : e.platform.stackTraces = false)
    (hown : s.vm.findClass RX6 = some m₀.cls) (h : ∀ w ∈ nsA, w.before args s = true) (hlocs : ∀ z ∈ locs, ∀ cell, s.heap[z.base]? = some cell → cell.vm.isStatics = false)
    {a : Addr} {cX : ClassId} {kX : Class} (hf : s.vm.findClass nsN = some cX) (hkX : s.vm.classes[cX]? = some kX) (hcell : W1.heap[a]? = some (freshCell cX kX)) (hnew : s.heap.size ≤ a) {msg : Value} (hmsg : msg.isRef = true)
    {g : JFrame} (hg : g.method = m₀) (hsize : g.locals.size = c.maxLocals) (hlk : g.locked = none) (hen : g.entered = []) {rest : List Value} (hst : g.stack = msg :: .ref a :: .ref a :: rest)
    (hd6 : decode c.code g.pc = .ok (.invokespecial 298, 3)) (hd9 : decode c.code (g.pc + 3) = .ok (.athrow, 1)) (hout : ∀ x ∈ c.exceptionTable.toList, covers x (g.pc + 3) = false)
    (hRf : 5 < R.frames) (hRl : 2 * g.monitorRoom + ((Value.ref a :: rest).map fun v => v.category).sum + 81 ≤ R.locals) (hlocks : meth.locks = false) :
    ∃ U : State, Steps p.tables e below (W1.setTop g) U ∧ U.status = .running ∧ Ended U below (.threw a) ∧ s.WarmedH U.vm ∧ s.sameButNew ({ U with vm := s.vm } : State) locs cells slots ∧ ∃ ce : Cell, U.heap[a]? = some ce ∧ s.vm.findClass nsN = some ce.cls ∧ ce.vm = .none := by
  have howns : e.platform.frameOwnsMonitors = true := by rw [X.admits.platform]
  have hfin : e.platform.finalization = false := by rw [X.admits.platform]
  have hpl : e.platform.magicAccessors = ({} : Platform).magicAccessors := by rw [X.admits.platform]
  have q : ∀ w ∈ nsA, w.holds args s none s [] = true := fun w hw => h w hw
  obtain ⟨T, Z0, L, -, Y⟩ := ThrowableC.of_atoms (args := args) howns hfin hpl (fun w hw => h w (nsA_1 hw))
  obtain ⟨Z, M, LZ, LM, hnZ⟩ := Init0T.ofS_atoms (args := args) hpl L Y (fun w hw => h w (nsA_2 hw))
  obtain ⟨P2, Ps, hlen, L2, hL, hP2m, hlink2, hlink⟩ := Bundle.chainS (args := args) hpl hnZ [exN] reN (by decide +kernel) (by decide +kernel) (fun w hw => h w (nsA_4 hw))
  obtain ⟨P1, L1, hP1m, hP1s⟩ := PassC.ofS_atoms (args := args) (s := s) hpl (X := nsN) (Y := reN) (by decide +kernel) (by decide +kernel) sx13_0 sx13_1 sx13_2 sx13_5 (fun w hw => h w (nsA_3 hw))
  have hlink1 : P1.sup = P2.m := Option.some.inj (hP1s.symm.trans hP2m)
  have hfound : s.vm.findClass nsN = some P1.m.cls := findClass_of_methodNamed hP1m
  cases Option.some.inj (hf.symm.trans hfound)
  obtain ⟨c1, kX', hc1, hk, hord, -, -, -⟩ := Cond.instantiable_spec (q (.instantiable nsN 6) (nsA_5 1 rfl))
  cases Option.some.inj (hc1.symm.trans hfound)
  cases Option.some.inj (hkX.symm.trans hk)
  have hsel : ∀ (y : MethodName) (m9 : MethodId), s.methodNamed? y = some m9 → (y.cls ≠ "java/lang/invoke/MethodHandle" ∧ y.cls ≠ "java/lang/invoke/VarHandle") → Cond.selects nsN y y ∈ nsA → selectMethod e.platform s.vm P1.m.cls m9 = .method m9 := by
    intro y m9 hy hh hm
    obtain ⟨c2, r2, m2, q1, q2, q3, q4, -⟩ := Cond.selects_spec (q _ hm)
    cases Option.some.inj (q1.symm.trans hfound)
    cases Option.some.inj (q2.symm.trans (State.methodFound?_of_named hy hh))
    cases Option.some.inj (q3.symm.trans hy)
    rw [Launch.admits_selectMethod X.admits]; exact q4
  obtain ⟨cellS0, hcS0, hiss⟩ := Y.statics
  obtain ⟨u0, hu0⟩ := Cond.staticRefV Y.unassigned L.unassignedStatic L.statics hcS0 hiss (q _ (nsA_5 9 rfl))
  obtain ⟨sen, hsen⟩ := Cond.staticRefV Y.sentinel L.sentinelStatic L.statics hcS0 hiss (q _ (nsA_5 10 rfl))
  obtain ⟨ci198, i198, fB, hk198, hg198, ha198, hsB, -, hnB, htB, hffB⟩ := Cond.ownField (t := .object "java/lang/Object") Y.found L.cls (by decide +kernel) (q _ (nsA_5 11 rfl)) (q _ (nsA_5 12 rfl)) e.platform hpl
  obtain ⟨cellS, hcellS, heS, -, hkeep⟩ := X.same.2.2.2.2.2 T.aS cellS0 hcS0
  have hout' : ∀ i, (⟨T.aS, i⟩ : Loc) ∉ locs := fun i hmem => by
    have h9 := hlocs _ hmem cellS0 hcS0
    rw [hiss] at h9; cases h9
  have hknownS : cellS.vm ≠ .unknown := by
    rw [heS]; intro hu
    rw [show cellS0.vm = .unknown from hu] at hiss
    cases hiss
  have hneS : T.aS ≠ a := Nat.ne_of_lt (Nat.lt_of_lt_of_le (Array.getElem?_eq_some_iff.mp hcS0).1 hnew)
  obtain ⟨iM, hffM⟩ := Y.msg
  obtain ⟨tyC, dC, hdC, hdnC⟩ := Cond.laysAt hfound hk Y.cause (q _ (nsA_5 5 rfl))
  obtain ⟨tyS, dS, hdS, hdnS⟩ := Cond.laysAt hfound hk Y.stack (q _ (nsA_5 6 rfl))
  obtain ⟨tyP, dP, hdP, hdnP⟩ := Cond.laysAt hfound hk Y.supp (q _ (nsA_5 7 rfl))
  obtain ⟨tyM, -, -, -⟩ := Cond.laysAt hfound hk hffM (q _ (nsA_5 8 rfl))
  obtain ⟨tyB, dB, hdB, hdnB⟩ := Cond.laysAt hfound hk hffB (q _ (nsA_5 13 rfl))
  have bC := Cond.laysApart hdB hdC hdnB hdnC (by rw [hnB, Y.causeName]; decide)
  have bS := Cond.laysApart hdB hdS hdnB hdnS (by rw [hnB, Y.stackName]; decide)
  have bP := Cond.laysApart hdB hdP hdnB hdnP (by rw [hnB, Y.suppName]; decide)
  have hskip : SkipFacts T e.platform s (fun u => u) u0 ((preparedCellV T.toThrowableT (freshCell P1.m.cls kX) a u0 sen).withEntry W1.cur) :=
    ⟨{ ci198 := ci198, i198 := i198, fBack := fB }, ⟨hk198, hg198, ha198, hsB⟩, by
      have h9 := fresh_default (c := P1.m.cls) tyB
      rw [htB] at h9
      simpa [preparedCellV, Cell.setSlot, Cell.withEntry, Array.getElem?_setIfInBounds, bC, bS, bP, bC.symm, bS.symm, bP.symm, defaultValue] using h9, fun _ _ => rfl⟩
  obtain ⟨tm, methC, cdC, kC, vm₁, hnC, -, -, -, -, -, -, -, hW₁, st1⟩ := Steps.initColdS (tb := p.tables) (e := e) (below := below) (s := s) (U := W1) X.here hexec X.warmed hpl hown (t := Bundle.initS nsN) rfl rfl (by decide +kernel)
    (q _ (nsA_5 0 rfl)) (h (.instanceMethod (Bundle.initS nsN)) (nsA_3 (List.mem_of_getElem? (i := 0) rfl))) (bytes := sx13) (maxL := 2) (h (.code (Bundle.initS nsN) sx13 2 none) (nsA_3 (List.mem_of_getElem? (i := 1) rfl)))
    (f := g) hg (a := a) (msg := msg) (rest := .ref a :: rest) hst hd6
  cases Option.some.inj (hnC.symm.trans hP1m)
  have X₁ := X.noted hW₁
  obtain ⟨vm₂, X₂, st2⟩ := X₁.ctorMessageOffV hexec (g := { g with stack := .ref a :: rest }) hg hsize T L Z LZ M LM (P1 :: P2 :: Ps)
    (fun P hP => by rcases List.mem_cons.mp hP with rfl | hP; exact L1; rcases List.mem_cons.mp hP with rfl | hP; exact L2; exact hL P hP) ⟨hlink1, hlink2, hlink⟩ (u0 := u0) (sen := sen) (self := a) hmsg (cell := freshCell P1.m.cls kX) (cellS := cellS)
    hcell (fun _ => by simp) (by simp) rfl rfl (hsel _ _ Y.fill0 (by decide +kernel) (nsA_5 3 rfl)) (hsel _ _ Y.fill (by decide +kernel) (nsA_5 4 rfl)) hcellS hneS hknownS (by rw [hkeep _ (hout' _)]; exact hu0) (by rw [hkeep _ (hout' _)]; exact hsen)
    (Takes.of_laid hk hord tyC (by rw [Y.causeType]; rfl)) (Takes.of_laid hk hord tyS (by rw [Y.stackType]; exact fits_refV_array _ u0)) (Takes.of_laid hk hord tyP (by rw [Y.suppType]; exact fits_refV_object _ sen))
    (Takes.of_laid hk hord tyM (by rw [Y.msgType]; exact fits_refV_object _ ⟨msg, hmsg⟩)) Y.objLocals hskip htr [] hd6
    (by simp only [List.length_cons, hlen, List.length_nil]; omega) (by simp only [List.length_cons, hlen, List.length_nil]; exact hRl)
  obtain ⟨hwalk, hrun, hended, hWU, hsame⟩ := X₂.athrowLeaves hexec (g := { g with stack := .ref a :: rest, pc := g.pc + 3 }) hg hlk hen hout (a := a) (rest := rest) rfl hd9
  have hlt : a < ((W1.setVm vm₁).setVm vm₂).heap.size := (Array.getElem?_eq_some_iff.mp hcell).1
  have hU := heapAt_setCell_self (s := (W1.setVm vm₁).setVm vm₂) (plainBareV T.toThrowableT (freshCell P1.m.cls kX) a u0 sen msg) hlt
  refine ⟨_, st1 _ (fun acts => ?_), hrun, hended, hWU, hsame.weaken (fun z hz hlt' => ?_) (Nat.le_refl _) (Nat.le_refl _), _, hU, hfound, rfl⟩
  · rw [doInvoke_state]
    exact st2 _ hwalk
  · rcases List.mem_append.mp hz with h1 | h1
    · exact h1
    · exfalso
      have hb : z.base = a := by
        simp only [List.mem_cons, List.not_mem_nil, or_false] at h1
        rcases h1 with rfl | rfl | rfl | rfl | rfl <;> rfl
      rw [hb] at hlt'
      exact Nat.not_lt.mpr hnew hlt'
end NSCT
section NSTH
variable {p : Program} {l : Launch} {e : Env} {R : Room} {s : State} {m : MethodId} {args : Array Value} {below : List Frame} {meth : Method} {c : Code} {H : Heap} {locs : List Loc} {cells slots : Nat} {free : Addr → Prop} {ls : Array Slot} {rest : List Value} {Qc : Array Value → State → Outcome → State → Prop} {XC : String → State → State → Prop}
/-- as vx_throwSW, of a class whose constructor links by 13 -/
theorem vx_throwNS {cc : ByteArray} {pc : Nat} (hexec : p.tables.exec = Jvm.exec) (hb : c.code = cc) (hl : l.stackTraces = false) {mc ms sa : Nat} {A : Nat → Prop}
    (hown : s.vm.findClass RX6 = some m.cls)
    (hk : (Cond.classLink RX6 294 nsN).before args s = true) (hini : (Cond.initialized nsN).before args s = true) (hstr : vk_R RX6 296 nsT sa s) (hat : ∀ w ∈ nsL, w.before args s = true)
    (hgood : ∀ w ∈ Cond.classLink RX6 294 nsN :: Cond.initialized nsN :: nsL, vx_ot w = true)
    (hU : vx_Zq Bundle.tN "UNASSIGNED_STACK" Bundle.steD A s s.heap) (hN : vx_Zq Bundle.tN "SUPPRESSED_SENTINEL" Bundle.listD A s s.heap) (hS : va_S A s.heap H locs) (hsize : ls.size = c.maxLocals)
    (d0 : decode cc pc = .ok (.new 294, 3)) (d3 : decode cc (pc + 3) = .ok (.dup, 1)) (d4 : decode cc (pc + 4) = .ok (.ldc_w 296, 3)) (d7 : decode cc (pc + 7) = .ok (.invokespecial 298, 3)) (d10 : decode cc (pc + 10) = .ok (.athrow, 1))
    (hout : ∀ x ∈ c.exceptionTable.toList, covers x (pc + 10) = false)
    (hRframes : 5 < R.frames) (hRlocals : (rest.map fun v => v.category).sum + 82 ≤ R.locals) (hRcells : cells + 1 ≤ R.cells) (hRslots : slots + 6 ≤ R.slots) (hlocks : meth.locks = false)
    (hx : ∀ t : State, s.vm.Alike t.vm → H.size ≤ t.heap.size → (∀ q : Nat, q < H.size → t.heap[q]? = H[q]?) → XC nsN s t)
    (hf : ∀ z ∈ locs, free z.base) (hc : cells + 1 ≤ mc) (hs : slots + 6 ≤ ms) :
    W p l e R s m args below meth c H locs cells slots (vx_MQ below Qc XC args s mc ms free) (F0 m pc ls rest) := by
  intro T hT X
  have htr : e.platform.stackTraces = false := (show e.platform.stackTraces = l.stackTraces by rw [X.admits.platform]).trans hl
  have Y := vx_rebase X (R' := { frames := R.frames, locals := R.locals, cells := 1, slots := 6 }) (Nat.le_refl _) (Nat.le_refl _) hRcells hRslots
  obtain ⟨s', hA⟩ : ∃ z, z = (T.setVm s.vm).setFrames (.invoking m args :: below) := ⟨_, rfl⟩
  rw [← hA] at Y
  have hvm : s'.vm = s.vm := by rw [hA]; rfl
  have hhp : s'.heap = H := by rw [hA]; exact hT
  have hW0 : s.WarmedH s'.vm := by rw [hvm]; exact State.WarmedH.refl s
  have hat' : ∀ w ∈ nsL, w.before args s' = true := fun w hw => vx_ot_at hW0 hvm.symm (hgood w (List.mem_cons_of_mem _ (List.mem_cons_of_mem _ hw))) (hat w hw)
  have hk' : (Cond.classLink RX6 294 nsN).before args s' = true := vx_ot_at hW0 hvm.symm (hgood _ List.mem_cons_self) hk
  have hini' : (Cond.initialized nsN).before args s' = true := vx_ot_at hW0 hvm.symm (hgood _ (List.mem_cons_of_mem _ List.mem_cons_self)) hini
  have hU' : vx_Zq Bundle.tN "UNASSIGNED_STACK" Bundle.steD A s' s'.heap := by rw [hhp]; exact vx_Zq.moved hW0.alike (hU.kept hS.2.1)
  have hN' : vx_Zq Bundle.tN "SUPPRESSED_SENTINEL" Bundle.listD A s' s'.heap := by rw [hhp]; exact vx_Zq.moved hW0.alike (hN.kept hS.2.1)
  have h : ∀ w ∈ nsA, w.before args s' = true := vx_own hat' (vx_isRefq hU'.1) (vx_isRefq hN'.1) hU'.2.word hN'.2.word
  have hown' : s'.vm.findClass RX6 = some m.cls := by rw [hvm]; exact hown
  have hins : (Cond.instantiable nsN 6).before args s' = true := h _ (nsA_5 1 rfl)
  obtain ⟨vm₁, cX, kX, hfX, hkX, -, -, X₁, st1⟩ := Y.newCold hexec (own := RX6) (C := nsN) (index := 294) (n := 6) hown' hk' hins hini'
    (g := F0 m pc ls rest) rfl (by rw [hb]; exact d0) (Nat.le_refl _) (Nat.le_refl _)
  generalize hT1 : (T.setVm vm₁).pushCell { cls := cX, slots := kX.instanceTypes.map defaultValue, vm := .none } = T1 at X₁ st1
  have hcat : (Value.ref T.heap.size).category = 1 := rfl
  have hcellA : T1.heap[T.heap.size]? = some (freshCell cX kX) := by rw [← hT1]; exact State.heap_pushCell_size _ _
  have d3' : decode c.code (pc + 3) = .ok (.dup, 1) := by rw [hb]; exact d3
  have d4' : decode c.code (pc + 4) = .ok (.ldc_w 296, 3) := by rw [hb]; exact d4
  have hstr' : vk_R RX6 296 nsT sa s' := vk_R.warm hW0 hstr
  obtain ⟨U, hsteps, hrun, hend, hW, hsame, ce, hce, hO, hOv⟩ := ns_ctor X₁ hexec htr hown' h (fun x hx => nomatch hx) hfX hkX hcellA (by rw [hhp, hT]; exact Nat.le_refl _) (msg := .ref sa) rfl
    (g := { method := m, pc := pc + 7, locals := ls, stack := .ref sa :: .ref T.heap.size :: .ref T.heap.size :: rest, locked := none }) rfl hsize rfl rfl (rest := rest) rfl
    (by rw [hb]; exact d7) (by rw [hb]; exact d10) hout hRframes (by simp only [List.map_cons, List.sum_cons, hcat]; omega) hlocks
  obtain ⟨f1, f2⟩ := vx_frame hsame
  rw [hhp] at f1 f2
  have hWs : s.WarmedH U.vm := State.WarmedH.trans hW0 hW
  have hcl : s.vm.findClass nsN = some ce.cls := by
    have h9 := hO
    rw [hvm] at h9
    exact h9
  have hall : s.sameButNew ({ U with vm := s.vm } : State) locs mc ms := by
    subst hA
    obtain ⟨e1, e2⟩ := hsame
    rw [State.setFrames_setFrames] at e1
    have h2 : (T.setVm s.vm).sameButNew ({ U with vm := s.vm } : State) [] (0 + 1) (0 + 6) := ⟨e1, e2⟩
    have h3 := X.same.trans h2
    rw [List.append_nil] at h3
    exact h3.mono hc hs
  refine ⟨U, ?_, .threw T.heap.size, hrun, hend, Or.inr ⟨T.heap.size, rfl, nsN, ce, locs, hx U hWs.alike f1 (fun q hq => f2 q hq (fun z hz => nomatch hz)), hce, hOv, hcl, hWs, hall, hf⟩⟩
  refine st1 _ ?_
  show Steps p.tables e below (T1.setTop { method := m, pc := pc + 3, locals := ls, stack := .ref T.heap.size :: rest, locked := none }) _
  jvm_step X₁.here [X₁.here.top, hexec, d3', Value.category]
  exact X₁.ldcStringW hexec (own := RX6) (text := nsT) (index := 296) (a := sa) hown' hstr'.1 hstr'.2
    (g := { method := m, pc := pc + 4, locals := ls, stack := .ref T.heap.size :: .ref T.heap.size :: rest, locked := none }) rfl d4' _ hsteps
end NSTH
def Xv (E : Et) (U : State) (H : Heap) : Prop := (∃ sa : Nat, vk_R RX6 296 nsT sa U) ∧ vx_Zq Bundle.tN "UNASSIGNED_STACK" Bundle.steD (eA E) U H ∧ vx_Zq Bundle.tN "SUPPRESSED_SENTINEL" Bundle.listD (eA E) U H ∧ ∀ w ∈ nsX, ∀ a, w.before a U = true
theorem Xv.go {E : Et} {s U : State} {H H1 : Heap} (h : Xv E s H) (hW : s.WarmedH U.vm) (hq : ∀ q : Nat, q < eb E → H1[q]? = H[q]?) : Xv E U H1 := by
  obtain ⟨⟨sa, h1⟩, h2, h3, h4⟩ := h
  have hk : ∀ a : Nat, a < H.size → ¬ eA E a → H1[a]? = H[a]? := fun a _ n => hq a (Nat.not_le.mp n)
  exact ⟨⟨sa, vk_R.warm hW h1⟩, (vx_Zq.moved hW.alike h2).kept hk, (vx_Zq.moved hW.alike h3).kept hk, fun w hw a => xw_move (List.all_eq_true.mp ns_all w hw) hW (h4 w hw #[])⟩
def PreX (E : Et) (sz : Nat) (wc : va_W) : State → Prop := fun U => Pre E sz wc U ∧ Xv E U U.heap
def XQ (E : Et) (wc : va_W) (sz : Nat) : String → State → State → Prop := fun C st t => C = nsN ∧ va_P (eD E) vwCl wc t.heap ∧ va_F (va_A wc sz) st t
def xF0 : Array Value → State → Outcome → State → Prop := fun _ _ _ _ => False
/-- a method that throws it, the world as it was -/
def CtX (l : Launch) (E : Et) (y : MethodName) (cc : ByteArray) (nL : Nat) (ret : Option FieldType) (d mc ms : Nat) (av : List Value) (wc : va_W) : Prop :=
  ∀ sz : Nat, vx_Met l y [.code y cc nL ret] (Rm d mc ms) (va_Pc av (PreX E sz wc)) xF0 (XQ E wc sz) mc ms (va_A wc sz)
def RtX (E : Et) (Z : Zt) (wc : va_W) (mc ms : Nat) : Prop :=
  zA Z = va_A wc (zs Z).heap.size ∧ Xv E (zs Z) (zs Z).heap ∧ zQ Z = vx_MQ (zb Z) xF0 (XQ E wc (zs Z).heap.size) (za Z) (zs Z) mc ms (va_A wc (zs Z).heap.size) ∧ (∀ x ∈ (zc Z).exceptionTable.toList, False)
theorem CtX.intro {l : Launch} {E : Et} {y : MethodName} {cc : ByteArray} {nL : Nat} {ret : Option FieldType} {d mc ms : Nat} {av : List Value} {wc : va_W}
    (hy : plainName y.cls = true) (hn : (lg_sl av).length ≤ nL) {lv : List (Nat × Value)} (hlv : lv_args 0 av = lv) (body : ∀ Z : Zt, Cx E l d mc ms Z cc nL y ret → RtX E Z wc mc ms → V E Z 0 lv [] wc 0 0) : CtX l E y cc nL ret d mc ms av wc := by
  intro sz
  subst hlv
  refine vx_ofW (cc := cc) (maxL := nL) (ret := ret) hy rfl ?_
  intro p e s m args below meth c s₁ B hml ht hv
  obtain ⟨rfl, ⟨rfl, hbs, hE, hP, hD⟩, hX9⟩ := hv
  have hl := lv_entry av (n := nL) hn
  rw [lg_entry_eq]
  let Z : Zt := (p, l, e, Rm d mc ms, s, m, av.toArray, below, meth, c, va_A wc s.heap.size, vx_MQ below xF0 (XQ E wc s.heap.size) av.toArray s mc ms (va_A wc s.heap.size), nL)
  have hX : Cx E l d mc ms Z cc nL y ret := by
    refine ⟨B.exec, B.bytes, hml, rfl, findClass_of_methodNamed B.named, (name_of_methodNamed B.named B.method).1, hE, ?_, ?_, B.notSynchronized, B.returns, rfl, Nat.le_refl _, Nat.le_refl _, Nat.le_refl _, Nat.le_refl _⟩
    · intro q hq
      rcases hq with ⟨k, e', hq⟩ | hq
      · exact hD.2 k _ hq
      · exact Nat.le_trans hbs hq
    · intro q hq
      exact Or.inr hq
  exact body Z hX ⟨rfl, hX9, rfl, ht⟩ s.heap [] _ hP hD.self va_S.rf hl
/-- a method with a table -/
def CtW (l : Launch) (E : Et) (y : MethodName) (cc : ByteArray) (nL : Nat) (ret : Option FieldType) (hh : List (Nat × Nat × Nat × Nat)) (d mc ms : Nat) (av : List Value) (wc : va_W) (Po : Option Value → va_W → Prop) : Prop :=
  ∀ sz : Nat, Met l y [.codeWith y cc nL ret hh] (Rm d mc ms) (va_Pc av (PreX E sz wc)) (Qo E wc sz Po) mc ms (va_A wc sz)
theorem CtW.intro {l : Launch} {E : Et} {y : MethodName} {cc : ByteArray} {nL : Nat} {ret : Option FieldType} {hh : List (Nat × Nat × Nat × Nat)} {d mc ms : Nat} {av : List Value} {wc : va_W} {Po : Option Value → va_W → Prop}
    (hy : plainName y.cls = true) (hn : (lg_sl av).length ≤ nL) {lv : List (Nat × Value)} (hlv : lv_args 0 av = lv) (body : ∀ Z : Zt, Cx E l d mc ms Z cc nL y ret → Rt E Z mc ms Po → Xv E (zs Z) (zs Z).heap → (zc Z).exceptionTable.toList = tableOf hh → V E Z 0 lv [] wc 0 0) : CtW l E y cc nL ret hh d mc ms av wc Po := by
  intro sz
  subst hlv
  refine va_MetW (cc := cc) (maxL := nL) (ret := ret) (hh := hh) hy rfl ?_
  intro p e s m args below meth c s₁ B hml hv
  obtain ⟨rfl, ⟨rfl, hbs, hE, hP, hD⟩, hX9⟩ := hv
  have hl := lv_entry av (n := nL) hn
  have ht : c.exceptionTable.toList = tableOf hh := vx_table (x := y) B (atoms_spec (ws := [Cond.codeWith y cc nL ret hh]) B.pre _ List.mem_cons_self)
  rw [lg_entry_eq]
  let Z : Zt := (p, l, e, Rm d mc ms, s, m, av.toArray, below, meth, c, va_A wc s.heap.size, MQ below (Qo E wc s.heap.size Po) av.toArray s mc ms (va_A wc s.heap.size), nL)
  have hX : Cx E l d mc ms Z cc nL y ret := by
    refine ⟨B.exec, B.bytes, hml, rfl, findClass_of_methodNamed B.named, (name_of_methodNamed B.named B.method).1, hE, ?_, ?_, B.notSynchronized, B.returns, rfl, Nat.le_refl _, Nat.le_refl _, Nat.le_refl _, Nat.le_refl _⟩
    · intro q hq
      rcases hq with ⟨k, e', hq⟩ | hq
      · exact hD.2 k _ hq
      · exact Nat.le_trans hbs hq
    · intro q hq
      exact Or.inr hq
  exact body Z hX ⟨wc, rfl, rfl⟩ hX9 ht s.heap [] _ hP hD.self va_S.rf hl
section XLED
variable {E : Et} {l : Launch} {d mc ms : Nat} {Z : Zt} {cc : ByteArray} {nL : Nat} {y : MethodName} {ret : Option FieldType} {pc k n : Nat} {lv : List (Nat × Value)} {rest st0 : List Value} {ws wc : va_W}
variable {y' : MethodName} {bytes : ByteArray} {maxL d' mc' ms' ix b : Nat} {rt : Option FieldType} {As : List Value} {Po : Option Value → va_W → Prop} {hh : List (Nat × Nat × Nat × Nat)}
theorem v_thr (X : Cx E l d mc ms Z cc nL yX6_led ret) (Y : RtX E Z wc mc ms) (hl : l.stackTraces = false)
    (d0 : decode cc pc = .ok (.new 294, 3)) (d3 : decode cc (pc + 3) = .ok (.dup, 1)) (d4 : decode cc (pc + 4) = .ok (.ldc_w 296, 3)) (d7 : decode cc (pc + 7) = .ok (.invokespecial 298, 3)) (d10 : decode cc (pc + 10) = .ok (.athrow, 1))
    (hd : 6 ≤ d) (hk : k + 1 ≤ mc) (hn : n + 6 ≤ ms) : V E Z pc lv [] wc k n := by
  intro H locs ls hP hD hS hl9
  obtain ⟨hA, ⟨⟨sa, x1⟩, x2, x3, x4⟩, hQ, ht⟩ := Y
  rw [hQ]
  have hr := X.rm
  have hw : ∀ w ∈ nsW, w.before (za Z) (zs Z) = true := fun w h => x4 w (List.mem_cons_of_mem _ h) _
  refine vx_throwNS (A := zA Z) X.ex X.bb (X.ll.symm ▸ hl) X.ow
    (hw _ List.mem_cons_self) (hw _ (List.mem_cons_of_mem _ List.mem_cons_self)) x1 (fun w h => hw w (List.mem_cons_of_mem _ (List.mem_cons_of_mem _ h))) (fun w h => List.all_eq_true.mp ns_ot w h) (x2.narrow X.ab) (x3.narrow X.ab) hS (hl9.1.trans X.ml.symm)
    d0 d3 d4 d7 d10 (fun x hx => (ht x hx).elim) ?_ ?_ ?_ ?_ X.lk ?_ ?_ hk hn
  · omega
  · show 0 + 82 ≤ (zR Z).locals
    omega
  · omega
  · omega
  · intro t ha hz hq
    refine ⟨rfl, fun j q hq2 => (hP j q hq2).kept (hq q.1 (hP j q hq2).lt), Nat.le_trans hS.1 hz, fun q h1 h2 => ?_⟩
    rw [hq q (Nat.lt_of_lt_of_le h1 hS.1)]
    exact hS.2.1 q h1 (by rw [hA]; exact h2)
  · intro z hz
    have := hS.2.2 z hz
    rw [hA] at this
    exact this
theorem xr_blind (sz : Nat) (av : List Value) (wc : va_W) : FrameBlind (va_Pc av (PreX E sz wc)) := by
  intro a U g mk h
  obtain ⟨h1, h2, h3⟩ := h
  obtain ⟨q1, q2⟩ := fr_blind sz av wc a U g mk ⟨h1, h2⟩
  exact ⟨q1, q2, Xv.go h3 (State.WarmedH.refl U) (fun _ _ => rfl)⟩
theorem xr_pre (X : Cx E l d mc ms Z cc nL y ret) (xv : Xv E (zs Z) (zs Z).heap) {H : Heap} {locs : List Loc} (hP : va_P (eD E) vwCl wc H) (hD : va_D (zA Z) wc) (hS : va_S (zA Z) (zs Z).heap H locs) {av : List Value} :
    ∀ U : State, U.heap = H → (zs Z).WarmedH U.vm → va_Pc av (PreX E H.size wc) av.toArray U := by
  intro U hU hW
  obtain ⟨q1, q2⟩ := fr_pre X hP hD hS (av := av) U hU hW
  refine ⟨q1, q2, ?_⟩
  rw [hU]
  exact xv.go hW (fun q hq => hS.2.1 q (Nat.lt_of_lt_of_le hq X.sz) (fun z => Nat.not_le.mpr hq (X.ab q z)))
theorem rn_SW (X : Cx E l d mc ms Z cc nL y ret) (xv : Xv E (zs Z) (zs Z).heap) (k1 : okIn (.static y')) (k3 : okIn (.codeWith y' bytes maxL rt hh)) (k4 : okIn (.initialized y'.cls)) (k5 : kN y' As.length) (hl0 : okIn (.methodLink y.cls ix y')) (h : decode cc pc = .ok (.invokestatic ix, 3)) (hC : CtW l E y' bytes maxL rt hh d' mc' ms' As wc Po) (hst : st0 = As.reverse ++ rest)
    (hd : d' < d) (hL : maxL ≤ 21) (hk : k + mc' ≤ mc) (hn : n + ms' ≤ ms) (hW : (rest.map fun v => v.category).sum ≤ 8) : Rn E Z k n mc' ms' pc st0 rest wc Po := by
  intro H locs ls hls hP hD hS
  have hM := hC H.size
  rw [← X.ll] at hM
  have hR := fr_room (mc' := mc') (ms' := ms') X hd hL
  exact vx_runSW (cc := cc) (nL := zn Z) (Ts := []) (As := As) ⟨X.ex, X.bb, X.ml, X.ow, fun _ h => by cases h⟩ hM ⟨⟨rfl, rfl, hR.1, hR.2, X.ev.ww k3, List.mem_singleton.mpr rfl⟩, X.ev.w k3, X.ev.w k4, k5.1, k5.len, X.ev.w hl0, X.ev.w k1⟩ ⟨xr_blind _ _ _, xr_pre X xv hP hD hS⟩ rfl rfl hls hst (lv_room hW) h ⟨by have := X.rm; omega, by have := X.rm; omega⟩
/-- led of the law: what x.led throws is caught at 12 -/
theorem v_xcatch (X : Cx E l d mc ms Z cc nL yL_led ret) (xv : Xv E (zs Z) (zs Z).heap) (htab : (zc Z).exceptionTable.toList = tableOf [(0, 9, 12, 13)]) (h : decode cc 4 = .ok (.invokevirtual 7, 3)) (hC : CtX l E yX6_led cX6_led 4 (some .int) d' mc' ms' (.ref b :: As) wc) (hlen : As.length = 1) (hst : st0 = As.reverse ++ .ref b :: rest)
    (q0 : Nat) {fs : List Value} (hr : wc[q0]? = some (ob b 6 fs)) (hd : d' < d) (hk : k + mc' ≤ mc) (hn : n + ms' ≤ ms) (hW : (rest.map fun v => v.category).sum ≤ 8) (isC : List Nat) (hnd : va_nd isC = true) (hCw : isC.map (fun i => ws[i]?) = wc.map some) (kk : ∀ q : Nat, V E Z 12 lv [.ref q] ws (k + mc') (n + ms')) : V E Z 4 lv st0 ws k n := by
  intro H locs ls hP hD hS hl T hT XX
  obtain ⟨hPc, hDc, hF⟩ := fr_sub isC hnd hCw hP hD hS X.hA
  obtain ⟨k1, k2, k3, k4, k5⟩ := k_X6_led
  have hM := hC H.size
  rw [← X.ll] at hM
  have hR := fr_room (mc' := mc') (ms' := ms') X hd (show 4 ≤ 21 by decide)
  have hrun := vx_runV (p := zp Z) (e := ze Z) (below := zb Z) (meth := zM Z) (c := zc Z) (locs := locs) (cells := k) (slots := n) (H := H) (cc := cc) (nL := zn Z) (Ts := []) (As := As) (rest := rest) (g := F0 (zm Z) 4 ls st0) (m := zm Z) (s := zs Z) (args := za Z) (R := zR Z) (own := RL) (C := RX6) (b := b) (n := 1) (index := 7)
    ⟨X.ex, X.bb, X.ml, X.ow, fun _ h => by cases h⟩ hM ⟨⟨rfl, rfl, hR.1, hR.2, X.ev.ww k3, List.mem_singleton.mpr rfl, X.ev.w k3, X.ev.w k4, k5.1, k5.len, X.ev.w ml_L_7⟩, X.ev.w k1, X.ev.w k2⟩ ⟨xr_blind _ _ _, va_recv X.kk hPc kcX6.1 hr, xr_pre X xv hPc hDc hS⟩ rfl hlen hl.1 hst (lv_room hW) h ⟨by have := X.rm; omega, by have := X.rm; omega⟩
  rcases hrun T hT XX with ⟨v, st₀, t, T', L, h0, X', hL, e1, e2, hfalse, st⟩ | ⟨q, st₀, t, T', L, C, ce, h0, X', hL, e1, e2, ⟨hCn, hP1, hz, hk9⟩, hce, hcv, hcl, st⟩
  · exact hfalse.elim
  · subst hCn
    rw [h0] at hz hk9
    have hP' : va_P (eD E) vwCl ws T'.heap := by
      intro j q2 hq
      rw [e1]
      by_cases hA : va_A wc H.size q2.1
      · rcases hA with ⟨k2, e, hk2⟩ | hge
        · obtain ⟨i, -, hi2⟩ := fr_place hCw hk2
          have hji := hD.1 j i q2 (q2.1, e) hq hi2 rfl
          subst hji
          have hqe : q2 = (q2.1, e) := Option.some.inj (hq.symm.trans hi2)
          rw [hqe]
          exact hP1 k2 _ hk2
        · exact absurd (hP j q2 hq).lt (Nat.not_lt.mpr hge)
      · exact (hP j q2 hq).kept (hk9 q2.1 (hP j q2 hq).lt hA)
    have hS' : va_S (zA Z) (zs Z).heap T'.heap (locs ++ L) := fr_S hS (by rw [e1]; exact hz) (fun q a b => by rw [e1]; exact hk9 q a b) hF hL
    obtain ⟨t2, a1, b1⟩ := vx_catch (p := zp Z) (l := zl Z) (e := ze Z) (R := zR Z) (below := zb Z) (meth := zM Z) (locs := locs ++ L) (cells := k + mc') (slots := n + ms') (Q := zQ Z) (H := T'.heap) (pc := 4) (ls := ls) (rest := rest) (own := RL) (name := nsN) (E := nsN) (ce := ce) (q := q) X.ow [] ⟨0, 9, 12, 13⟩ [] (htab.trans rfl) (fun z hz => nomatch hz) rfl (by decide)
      (xv.2.2.2 _ List.mem_cons_self _) (xv.2.2.2 _ (List.mem_cons_of_mem _ (List.mem_cons_of_mem _ (List.mem_cons_of_mem _ ns_self))) _) (by rw [e1]; exact hce) hcv hcl (kk q T'.heap (locs ++ L) ls hP' hD hS' hl) T' rfl X'
    exact ⟨t2, st.trans a1, b1⟩
end XLED
section FRAMEX
variable {l : Launch} {E : Et} {y : MethodName} {cc : ByteArray} {nL : Nat} {ret : Option FieldType} {d mc ms : Nat} {av : List Value} {wc ws ws' : va_W}
theorem CtX.frame (h : CtX l E y cc nL ret d mc ms av wc) (isC : List Nat) (hn : va_nd isC = true) (hC : isC.map (fun i => ws[i]?) = wc.map some) : CtX l E y cc nL ret d mc ms av ws := by
  intro sz
  have hA := va_Aup (sz := sz) hC
  refine MetFree.mono (h sz) ?_ (fun _ _ _ _ _ z => z) ?_
  · rintro a s ⟨ha, ⟨hs, hb, hE, hP, hD⟩, hx⟩
    exact ⟨ha, ⟨hs, hb, hE, hP.sub isC (fm_of hC), hD.sub isC hn hC⟩, hx⟩
  · rintro a st o t ⟨ha, ⟨hs, hb, hE, hP, hD⟩, hx⟩ hq
    rcases hq with ⟨hf, -⟩ | ⟨q, ho, C, ce, L, ⟨hCn, hP1, hz, hk⟩, g1, g2, g3, g4, g5, g6⟩
    · exact hf.elim
    · refine Or.inr ⟨q, ho, C, ce, L, ⟨hCn, fun j q2 hq2 => ?_, hz, fun q a b => hk q a (fun c => b (hA q c))⟩, g1, g2, g3, g4, g5, fun z hz => hA _ (g6 z hz)⟩
      by_cases hA2 : va_A wc sz q2.1
      · rcases hA2 with ⟨k2, e, hk2⟩ | hge
        · obtain ⟨i, -, hi2⟩ := fr_place hC hk2
          have hji := hD.1 j i q2 (q2.1, e) hq2 hi2 rfl
          subst hji
          have hqe : q2 = (q2.1, e) := Option.some.inj (hq2.symm.trans hi2)
          rw [hqe]
          exact hP1 k2 _ hk2
        · exact absurd (hP j q2 hq2).lt (by rw [hs]; exact Nat.not_lt.mpr hge)
      · exact (hP j q2 hq2).kept (hk q2.1 (hP j q2 hq2).lt hA2)
theorem CtX.perm (hp : List.Perm ws ws') (h : CtX l E y cc nL ret d mc ms av ws) : CtX l E y cc nL ret d mc ms av ws' := by
  intro sz
  have hA := va_Aperm (sz := sz) hp
  refine MetFree.mono (h sz) ?_ (fun _ _ _ _ _ z => z) ?_
  · rintro a s ⟨ha, ⟨hs, hb, hE, hP, hD⟩, hx⟩
    refine ⟨ha, ⟨hs, hb, hE, fun i q hq => ?_, of_nd ((hp.symm.map Prod.fst).nodup_iff.mp (nd_of hD.1)), fun i q hq => ?_⟩, hx⟩
    · obtain ⟨j, hj⟩ := List.mem_iff_getElem?.mp (hp.mem_iff.mp (List.mem_of_getElem? hq))
      exact hP j q hj
    · obtain ⟨j, hj⟩ := List.mem_iff_getElem?.mp (hp.mem_iff.mp (List.mem_of_getElem? hq))
      exact hD.2 j q hj
  · rintro a st o t ⟨ha, ⟨hs, hb, hE, hP, hD⟩, hx⟩ hq
    rcases hq with ⟨hf, -⟩ | ⟨q, ho, C, ce, L, ⟨hCn, hP1, hz, hk⟩, g1, g2, g3, g4, g5, g6⟩
    · exact hf.elim
    · refine Or.inr ⟨q, ho, C, ce, L, ⟨hCn, fun j q2 hq2 => ?_, hz, fun q a b => hk q a (fun c => b (hA q c))⟩, g1, g2, g3, g4, g5, fun z hz => hA _ (g6 z hz)⟩
      obtain ⟨j2, hj2⟩ := List.mem_iff_getElem?.mp (hp.mem_iff.mpr (List.mem_of_getElem? hq2))
      exact hP1 j2 q2 hj2
end FRAMEX
