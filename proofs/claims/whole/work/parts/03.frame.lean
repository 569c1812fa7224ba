/-! THE FRAME: one environment of facts, one judgement V over (pc, locals, stack, world), contracts Ct, rules row by row. -/
abbrev Et : Type := va_G × (Nat → ClassId) × Nat × (Nat → Nat) × (Nat → Nat) × Nat
abbrev eD (E : Et) : va_G := E.1
abbrev eC (E : Et) : Nat → ClassId := E.2.1
abbrev eb (E : Et) : Nat := E.2.2.1
abbrev eK (E : Et) : Nat → Nat := E.2.2.2.1
abbrev eV (E : Et) : Nat → Nat := E.2.2.2.2.1
abbrev eT (E : Et) : Nat := E.2.2.2.2.2
abbrev eA (E : Et) : Nat → Prop := fun q => eb E ≤ q
/-- what may be null: 0 says so -/
def eF (E : Et) : Option Nat := if eK E 20 = 0 then none else some (eK E 20 - 1)
def fr_ty (f : Nat → ClassId) : List (ClassId × FieldType) := [(f 0, .int), (f 1, .long), (f 2, .byte), (f 3, .boolean), (f 4, .object "CheekClause$Page")]
def fr_nest : Cond → Bool
  | .fieldLinkNest _ _ _ _ _ _ => true
  | .methodLinkNest _ _ _ _ => true
  | _ => false
def fr_ok (w : Cond) : Bool := goodWord w || fr_nest w
abbrev okIn (w : Cond) : Prop := w ∈ lw_tbl ∧ fr_ok w = true
theorem fr_move {w : Cond} (h : fr_ok w = true) {s U : State} (hW : s.WarmedH U.vm) {a a' : Array Value} (hb : w.before a s = true) : w.before a' U = true := by
  rcases Bool.or_eq_true _ _ |>.mp h with h | h
  · exact word_at hW (good_of_word h) hb
  · cases w <;> first | (cases h; done) | skip
    all_goals first | exact va_Nw.use rfl (va_Nw.warmF hW (va_Nw.of rfl hb)) | exact va_Nw.use rfl (va_Nw.warmM hW (va_Nw.of rfl hb))
/-- the strings: texts by place -/
def st_tx : List (List Int32) := ["city", "man", "deed", "clause", "unsure", "did", "blur", "slips", "rain", "on", "ink", "must", "mustnt", "if", "unless", "notboth", "either", "day", "kept", "breach"].map (fun t => t.toList.map (fun c => nI c.toNat))
def st_at (E : Et) (U : State) (H : Heap) (i : Nat) : Prop := va_O "java/lang/String" (eK E i) (eA E) U H ∧ va_OF "java/lang/String" "coder" "B" (.int 0) (eK E i) (eA E) U H ∧ va_OF "java/lang/String" "value" "[B" (.ref (eV E i)) (eK E i) (eA E) U H ∧ va_T .byte (eV E i) (st_tx.getD i []).length (fun j => .int ((st_tx.getD i []).getD j 0)) (eA E) U H
def st_refs : List (String × Nat × String × Nat) := [("CheekClause$Reader", 26, "city", 0), ("CheekClause$Reader", 32, "man", 1), ("CheekClause$Reader", 34, "deed", 2), ("CheekClause$Reader", 36, "clause", 3), ("CheekClause$Reader", 38, "unsure", 4), ("CheekClause$Reader", 40, "did", 5), ("CheekClause$Reader", 176, "blur", 6), ("CheekClause$Reader", 186, "slips", 7), ("CheekClause$Reader", 190, "rain", 8), ("CheekClause$Reader", 198, "on", 9), ("CheekClause$Reader", 203, "ink", 10), ("CheekClause$Reader", 212, "must", 11), ("CheekClause$Reader", 214, "mustnt", 12), ("CheekClause$Reader", 216, "if", 13), ("CheekClause$Reader", 218, "unless", 14), ("CheekClause$Reader", 220, "notboth", 15), ("CheekClause$Reader", 222, "either", 16), ("CheekClause$Reader", 231, "day", 17), ("CheekClause$Reader", 233, "kept", 18), ("CheekClause$Reader", 235, "breach", 19), ("CheekClauseModel", 130, "city", 0), ("CheekClauseModel", 132, "man", 1), ("CheekClauseModel", 134, "deed", 2), ("CheekClauseModel", 136, "clause", 3), ("CheekClauseModel", 138, "unsure", 4), ("CheekClauseModel", 140, "did", 5), ("CheekClauseModel", 204, "blur", 6), ("CheekClauseModel", 209, "slips", 7), ("CheekClauseModel", 211, "rain", 8), ("CheekClauseModel", 228, "must", 11), ("CheekClauseModel", 230, "mustnt", 12), ("CheekClauseModel", 232, "if", 13), ("CheekClauseModel", 234, "unless", 14), ("CheekClauseModel", 236, "notboth", 15), ("CheekClauseModel", 238, "either", 16), ("CheekClauseModel", 243, "on", 9), ("CheekClauseModel", 248, "ink", 10), ("CheekClauseModel", 281, "day", 17), ("CheekClauseModel", 283, "kept", 18), ("CheekClauseModel", 284, "breach", 19)]
def sw_tab : List Int64 := [-6148914691236517206, -3689348814741910324, -1085102592571150096, -71777214294589696, -281470681808896, -4294967296]
/-- what holds everywhere: the classes, the words, what the start's heap holds below eb -/
def Ev (E : Et) (U : State) (H : Heap) : Prop :=
  va_K (eD E) vwCl (fr_ty (eC E)) U ∧ (∀ w ∈ lw_tbl, fr_ok w = true → ∀ a, w.before a U = true) ∧
  (∀ i, i < 20 → st_at E U H i) ∧ (∀ q ∈ st_refs, vk_R q.1 q.2.1 q.2.2.1 (eK E q.2.2.2) U) ∧
  va_Z "CheekClause$City" "SETS_WITH" "[J" (.ref (eT E)) (eA E) U H ∧ va_T .long (eT E) 6 (fun j => .long (sw_tab.getD j 0)) (eA E) U H ∧
  va_Z "java/lang/String" "COMPACT_STRINGS" "Z" (.int 1) (eA E) U H ∧ va_AO "CheekClause$Page" U ∧
  va_Z "jdk/internal/util/Preconditions" "SIOOBE_FORMATTER" "Ljava/util/function/BiFunction;" (va_rf (eF E)) (eA E) U H
theorem Ev.go {E : Et} {s U : State} {H H1 : Heap} (h : Ev E s H) (hW : s.WarmedH U.vm) (hq : ∀ q : Nat, q < eb E → H1[q]? = H[q]?) : Ev E U H1 := by
  obtain ⟨h1, h2, h3, h4, h5, h6, h7, h8, h9⟩ := h
  have hk : ∀ a : Nat, a < H.size → ¬ eA E a → H1[a]? = H[a]? := fun a _ n => hq a (Nat.not_le.mp n)
  have ha := hW.alike
  refine ⟨va_K.moved ha h1, fun w hw hg a => fr_move hg hW (h2 w hw hg #[]), fun i hi => ?_, fun q hq => vk_R.warm hW (h4 q hq), (va_Z.moved ha h5).kept hk, (va_T.moved ha h6).kept hk, (va_Z.moved ha h7).kept hk, va_AO.moved ha h8, (va_Z.moved ha h9).kept hk⟩
  obtain ⟨g1, g2, g3, g4⟩ := h3 i hi
  exact ⟨(va_O.moved ha g1).kept hk, (va_OF.moved ha g2).kept hk, (va_OF.moved ha g3).kept hk, (va_T.moved ha g4).kept hk⟩
theorem Ev.w {E : Et} {U : State} {H : Heap} (h : Ev E U H) {w : Cond} (hw : okIn w) {a : Array Value} : w.before a U = true := h.2.1 w hw.1 hw.2 a
theorem Ev.ww {E : Et} {U : State} {H : Heap} (h : Ev E U H) {w : Cond} (hw : okIn w) : ∀ w' ∈ [w], ∀ (a' : Array Value) (T : State), U.WarmedH T.vm → w'.before a' T = true := by
  intro w' h' a' T hT
  rw [List.mem_singleton.mp h']
  exact fr_move hw.2 hT (h.w hw (a := #[]))
abbrev Zt : Type := Program × Launch × Env × Room × State × MethodId × Array Value × List Frame × Method × Code × (Nat → Prop) × (State → Prop) × Nat
abbrev zp (Z : Zt) := Z.1
abbrev zl (Z : Zt) := Z.2.1
abbrev ze (Z : Zt) := Z.2.2.1
abbrev zR (Z : Zt) := Z.2.2.2.1
abbrev zs (Z : Zt) := Z.2.2.2.2.1
abbrev zm (Z : Zt) := Z.2.2.2.2.2.1
abbrev za (Z : Zt) := Z.2.2.2.2.2.2.1
abbrev zb (Z : Zt) := Z.2.2.2.2.2.2.2.1
abbrev zM (Z : Zt) := Z.2.2.2.2.2.2.2.2.1
abbrev zc (Z : Zt) := Z.2.2.2.2.2.2.2.2.2.1
abbrev zA (Z : Zt) := Z.2.2.2.2.2.2.2.2.2.2.1
abbrev zQ (Z : Zt) := Z.2.2.2.2.2.2.2.2.2.2.2.1
abbrev zn (Z : Zt) := Z.2.2.2.2.2.2.2.2.2.2.2.2
/-- the judgement: from pc, with these locals, this stack, this world, k cells and n slots made, the machine comes to Q -/
def V (E : Et) (Z : Zt) (pc : Nat) (lv : List (Nat × Value)) (st : List Value) (ws : va_W) (k n : Nat) : Prop :=
  ∀ (H : Heap) (locs : List Loc) (ls : Array Slot), va_P (eD E) vwCl ws H → va_D (zA Z) ws → va_S (zA Z) (zs Z).heap H locs → lv_has ls (zn Z) lv →
    W (zp Z) (zl Z) (ze Z) (zR Z) (zs Z) (zm Z) (za Z) (zb Z) (zM Z) (zc Z) H locs k n (zQ Z) (F0 (zm Z) pc ls st)
def Cx (E : Et) (l : Launch) (d mc ms : Nat) (Z : Zt) (cc : ByteArray) (nL : Nat) (y : MethodName) (ret : Option FieldType) : Prop :=
  (zp Z).tables.exec = Jvm.exec ∧ (zc Z).code = cc ∧ (zc Z).maxLocals = zn Z ∧ zn Z = nL ∧ (zs Z).vm.findClass y.cls = some (zm Z).cls ∧ (zM Z).name = y.name ∧ Ev E (zs Z) (zs Z).heap ∧
  (∀ q, zA Z q → eb E ≤ q) ∧ (∀ q, (zs Z).heap.size ≤ q → zA Z q) ∧ (zM Z).locks = false ∧ (zM Z).sig.returnType = ret ∧ zl Z = l ∧
  d ≤ (zR Z).frames ∧ 40 * d ≤ (zR Z).locals ∧ mc ≤ (zR Z).cells ∧ ms ≤ (zR Z).slots
section CXA
variable {E : Et} {l : Launch} {d mc ms : Nat} {Z : Zt} {cc : ByteArray} {nL : Nat} {y : MethodName} {ret : Option FieldType}
theorem Cx.ex (X : Cx E l d mc ms Z cc nL y ret) : (zp Z).tables.exec = Jvm.exec := X.1
theorem Cx.bb (X : Cx E l d mc ms Z cc nL y ret) : (zc Z).code = cc := X.2.1
theorem Cx.ml (X : Cx E l d mc ms Z cc nL y ret) : (zc Z).maxLocals = zn Z := X.2.2.1
theorem Cx.nl (X : Cx E l d mc ms Z cc nL y ret) : zn Z = nL := X.2.2.2.1
theorem Cx.ow (X : Cx E l d mc ms Z cc nL y ret) : (zs Z).vm.findClass y.cls = some (zm Z).cls := X.2.2.2.2.1
theorem Cx.nm (X : Cx E l d mc ms Z cc nL y ret) : (zM Z).name = y.name := X.2.2.2.2.2.1
theorem Cx.ev (X : Cx E l d mc ms Z cc nL y ret) : Ev E (zs Z) (zs Z).heap := X.2.2.2.2.2.2.1
theorem Cx.ab (X : Cx E l d mc ms Z cc nL y ret) : ∀ q, zA Z q → eb E ≤ q := X.2.2.2.2.2.2.2.1
theorem Cx.hA (X : Cx E l d mc ms Z cc nL y ret) : ∀ q, (zs Z).heap.size ≤ q → zA Z q := X.2.2.2.2.2.2.2.2.1
theorem Cx.lk (X : Cx E l d mc ms Z cc nL y ret) : (zM Z).locks = false := X.2.2.2.2.2.2.2.2.2.1
theorem Cx.rt (X : Cx E l d mc ms Z cc nL y ret) : (zM Z).sig.returnType = ret := X.2.2.2.2.2.2.2.2.2.2.1
theorem Cx.ll (X : Cx E l d mc ms Z cc nL y ret) : zl Z = l := X.2.2.2.2.2.2.2.2.2.2.2.1
theorem Cx.rm (X : Cx E l d mc ms Z cc nL y ret) : d ≤ (zR Z).frames ∧ 40 * d ≤ (zR Z).locals ∧ mc ≤ (zR Z).cells ∧ ms ≤ (zR Z).slots := X.2.2.2.2.2.2.2.2.2.2.2.2
theorem Cx.kk (X : Cx E l d mc ms Z cc nL y ret) : va_K (eD E) vwCl (fr_ty (eC E)) (zs Z) := X.ev.1
theorem Cx.ts (X : Cx E l d mc ms Z cc nL y ret) : ∀ w ∈ lw_tbl.filter fr_ok, w.before (za Z) (zs Z) = true := fun w hw => X.ev.2.1 w (List.mem_filter.mp hw).1 (List.mem_filter.mp hw).2 _
end CXA
def Rm (d mc ms : Nat) : Room := { frames := d, cells := mc, slots := ms, locals := 40 * d }
def Qo (E : Et) (wc : va_W) (sz : Nat) (Po : Option Value → va_W → Prop) : Array Value → State → Outcome → State → Prop := fun _ st oc t =>
  (∃ (r : Option Value) (w1 : va_W), oc = .returned r ∧ Po r w1 ∧ va_P (eD E) vwCl w1 t.heap ∧ va_D (va_A wc sz) w1) ∧ va_F (va_A wc sz) st t
def Pre (E : Et) (sz : Nat) (wc : va_W) : State → Prop := fun U => U.heap.size = sz ∧ eb E ≤ sz ∧ Ev E U U.heap ∧ va_P (eD E) vwCl wc U.heap ∧ va_D (eA E) wc
/-- a contract: from the arguments av and the world wc, y returns r with the world w1, Po r w1 -/
def Ct (l : Launch) (E : Et) (y : MethodName) (cc : ByteArray) (nL : Nat) (ret : Option FieldType) (d mc ms : Nat) (av : List Value) (wc : va_W) (Po : Option Value → va_W → Prop) : Prop :=
  ∀ sz : Nat, Met l y [.code y cc nL ret] (Rm d mc ms) (va_Pc av (Pre E sz wc)) (Qo E wc sz Po) mc ms (va_A wc sz)
def Rt (E : Et) (Z : Zt) (mc ms : Nat) (Po : Option Value → va_W → Prop) : Prop :=
  ∃ wc : va_W, zA Z = va_A wc (zs Z).heap.size ∧ zQ Z = MQ (zb Z) (Qo E wc (zs Z).heap.size Po) (za Z) (zs Z) mc ms (va_A wc (zs Z).heap.size)
theorem Ct.intro {l : Launch} {E : Et} {y : MethodName} {cc : ByteArray} {nL : Nat} {ret : Option FieldType} {d mc ms : Nat} {av : List Value} {wc : va_W} {Po : Option Value → va_W → Prop}
    (hy : plainName y.cls = true) (hn : (lg_sl av).length ≤ nL) {lv : List (Nat × Value)} (hlv : lv_args 0 av = lv) (body : ∀ Z : Zt, Cx E l d mc ms Z cc nL y ret → Rt E Z mc ms Po → V E Z 0 lv [] wc 0 0) : Ct l E y cc nL ret d mc ms av wc Po := by
  intro sz
  subst hlv
  refine Met.ofW (cc := cc) (maxL := nL) (ret := ret) hy rfl ?_
  intro p e s m args below meth c s₁ B hml hv
  obtain ⟨rfl, rfl, hbs, hE, hP, hD⟩ := hv
  have hl := lv_entry av (n := nL) hn
  rw [lg_entry_eq]
  let Z : Zt := (p, l, e, Rm d mc ms, s, m, av.toArray, below, meth, c, va_A wc s.heap.size, MQ below (Qo E wc s.heap.size Po) av.toArray s mc ms (va_A wc s.heap.size), nL)
  have hX : Cx E l d mc ms Z cc nL y ret := by
    refine ⟨B.exec, B.bytes, hml, rfl, findClass_of_methodNamed B.named, (name_of_methodNamed B.named B.method).1, hE, ?_, ?_, B.notSynchronized, B.returns, rfl, Nat.le_refl _, Nat.le_refl _, Nat.le_refl _, Nat.le_refl _⟩
    · intro q hq
      rcases hq with ⟨k, e', hq⟩ | hq
      · exact hD.2 k _ hq
      · exact Nat.le_trans hbs hq
    · intro q hq
      exact Or.inr hq
  exact body Z hX ⟨wc, rfl, rfl⟩ s.heap [] _ hP hD.self va_S.rf hl
theorem Ct.post {l : Launch} {E : Et} {y : MethodName} {cc : ByteArray} {nL : Nat} {ret : Option FieldType} {d mc ms : Nat} {av : List Value} {wc : va_W} {Po Po' : Option Value → va_W → Prop}
    (h : Ct l E y cc nL ret d mc ms av wc Po) (hp : ∀ r w, Po r w → Po' r w) : Ct l E y cc nL ret d mc ms av wc Po' := by
  intro sz
  refine MetFree.mono (h sz) (fun _ _ z => z) (fun _ _ _ _ _ z => z) ?_
  intro a st o t _ hq
  obtain ⟨⟨⟨r, w1, h1, h2, h3⟩, h4⟩, h5⟩ := hq
  exact ⟨⟨⟨r, w1, h1, hp r w1 h2, h3⟩, h4⟩, h5⟩
