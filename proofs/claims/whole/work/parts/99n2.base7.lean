/-! a String constant by the wide form -/
theorem ldcStrW {p : Program} {l : Launch} {e : Env} {R : Room} {s : State} {m : MethodId} {args : Array Value} {below : List Frame} {meth : Method} {c : Code} {T : State} {locs : List Loc} {cells slots : Nat}
    (X : Stand p l e R s m args below meth c T locs cells slots) (hexec : p.tables.exec = Jvm.exec) {own text : String} {index : Nat} {a : Addr} (hown : s.vm.findClass own = some m.cls)
    (hconst : (Cond.stringRef own index text).before args s = true) (hev : (Term.string own index).eval args s none [] s = some (.ref a)) {g : JFrame} (hg : g.method = m) (hdg : decode c.code g.pc = .ok (.ldc_w index, 3)) :
    ∀ target, Steps p.tables e below (T.setTop { g with pc := g.pc + 3, stack := .ref a :: g.stack }) target → Steps p.tables e below (T.setTop g) target := by
  obtain ⟨k, cf, i, a', hk, hcf, hcp, -, hr, hev'⟩ := Cond.stringRef_spec hown hconst
  cases hev.symm.trans hev'
  obtain ⟨k', hk', he⟩ := X.warmed.alike.2.2 _ _ hk
  have hr' : k'.resolved[index]? = some (some (.string a)) := by
    rcases X.warmed.entry hk hk' index with h | ⟨h, -⟩
    · rw [h]; exact hr
    · rw [hr] at h; cases h
  intro target hrest
  subst hg
  jvm_step X.here [hexec, hdg, ldc_w.wp_string (e := e) (s := T) (f := g) X.here.top hk' (by rw [he]; exact hcf) hcp hr']
  exact hrest
theorem v_ldcSW {E : Et} {l : Launch} {d mc ms : Nat} {Z : Zt} {cc : ByteArray} {nL : Nat} {y : MethodName} {ret : Option FieldType} {pc k n : Nat} {lv : List (Nat × Value)} {rest : List Value} {ws : va_W} (X : Cx E l d mc ms Z cc nL y ret) {ix i : Nat} {tx : String} (h : decode cc pc = .ok (.ldc_w ix, 3)) (hc : (y.cls, ix, tx, i) ∈ st_refs) (kk : V E Z (pc + 3) lv (.ref (eK E i) :: rest) ws k n) : V E Z pc lv rest ws k n := by
  intro H locs ls hP hD hS hl T hT XX
  obtain ⟨t, a1, b1⟩ := kk H locs ls hP hD hS hl T hT XX
  have hZ := X.ev.2.2.2.1 _ hc
  exact ⟨t, ldcStrW XX X.ex X.ow (text := tx) hZ.1 hZ.2 (g := F0 (zm Z) pc ls rest) rfl (by rw [X.bb]; exact h) t a1, b1⟩
