/-! the start: classes and array classes as the tables have them -/
theorem ev_cls {s : State} {a : Array Value} (hts : ∀ w ∈ lw_tbl, w.before a s = true) : ∃ D : va_G, ∀ (c : Nat) (q : vw_C), vwCl[c]? = some q → u_Kn s q.1 q.2.1 q.2.2 (D.1 c) (D.2 c) := by
  have h0 : ∀ c : Nat, ∃ d : ClassId × (Nat → Nat), ∀ q : vw_C, vwCl[c]? = some q → u_Kn s q.1 q.2.1 q.2.2 d.1 d.2 := by
    intro c
    rcases Nat.lt_or_ge c 9 with hc | hc
    · rcases (show c = 0 ∨ c = 1 ∨ c = 2 ∨ c = 3 ∨ c = 4 ∨ c = 5 ∨ c = 6 ∨ c = 7 ∨ c = 8 by omega) with rfl | rfl | rfl | rfl | rfl | rfl | rfl | rfl | rfl
      · obtain ⟨cC, iS, h⟩ := u_known hts (fun w h => (ufX0 w h).1) (hts _ it_X0.1)
        exact ⟨(cC, iS), fun q hq => by cases hq; exact h⟩
      · obtain ⟨cC, iS, h⟩ := u_known hts (fun w h => (ufX1 w h).1) (hts _ it_X1.1)
        exact ⟨(cC, iS), fun q hq => by cases hq; exact h⟩
      · obtain ⟨cC, iS, h⟩ := u_known hts (fun w h => (ufX2 w h).1) (hts _ it_X2.1)
        exact ⟨(cC, iS), fun q hq => by cases hq; exact h⟩
      · obtain ⟨cC, iS, h⟩ := u_known hts (fun w h => (ufX3 w h).1) (hts _ it_X3.1)
        exact ⟨(cC, iS), fun q hq => by cases hq; exact h⟩
      · obtain ⟨cC, iS, h⟩ := u_known hts (fun w h => (ufX4 w h).1) (hts _ it_X4.1)
        exact ⟨(cC, iS), fun q hq => by cases hq; exact h⟩
      · obtain ⟨cC, iS, h⟩ := u_known hts (fun w h => (ufX5 w h).1) (hts _ it_X5.1)
        exact ⟨(cC, iS), fun q hq => by cases hq; exact h⟩
      · obtain ⟨cC, iS, h⟩ := u_known hts (fun w h => (ufX6 w h).1) (hts _ it_X6.1)
        exact ⟨(cC, iS), fun q hq => by cases hq; exact h⟩
      · obtain ⟨cC, iS, h⟩ := u_known hts (fun w h => (ufX7 w h).1) (hts _ it_X7.1)
        exact ⟨(cC, iS), fun q hq => by cases hq; exact h⟩
      · obtain ⟨cC, iS, h⟩ := u_known hts (fun w h => (ufX8 w h).1) (hts _ it_X8.1)
        exact ⟨(cC, iS), fun q hq => by cases hq; exact h⟩
    · refine ⟨(0, fun _ => 0), fun q hq => ?_⟩
      rw [List.getElem?_eq_none (show vwCl.length ≤ c from hc)] at hq
      cases hq
  obtain ⟨f, hf⟩ := Classical.axiomOfChoice h0
  exact ⟨(fun c => (f c).1, fun c => (f c).2), fun c q hq => hf c q hq⟩
theorem ev_a1 {s : State} {a : Array Value} {ty : FieldType} (h : (Cond.arrayClass ty).before a s = true) (hr : ∀ c, va_RA s c ty = (s.vm.findClass ("[" ++ ty.toString) = some c)) : ∃ c, ArrOfT s c ty ∧ va_RA s c ty := by
  obtain ⟨c, k, comp, h1, h2, h3⟩ := Cond.arrayClass_spec (args := a) (first := s) (o := none) (s := s) (idx := []) h
  exact ⟨c, fun n z => ⟨(fun k h => by cases h), k, h2, comp, h3⟩, by rw [hr]; exact h1⟩
theorem ev_aP {s : State} (h : va_AO "CheekClause$Page" s) : ∃ c, ArrOfT s c (.object "CheekClause$Page") ∧ va_RA s c (.object "CheekClause$Page") := by
  obtain ⟨comp, c, k, h0, -, h2, h3, h4⟩ := Cond.arrayOver_spec (args := #[]) (first := s) (o := none) (s := s) (idx := []) h
  exact ⟨c, fun n z => ⟨(fun k h => by cases h), k, h2, comp, h3⟩, k, comp, h2, h3, h0, h4⟩
theorem ev_arr {s : State} {a : Array Value} (hts : ∀ w ∈ lw_tbl, w.before a s = true) (hP : va_AO "CheekClause$Page" s) : ∃ eC : Nat → ClassId, ∀ (k : Nat) (q : ClassId × FieldType), (fr_ty eC)[k]? = some q → ArrOfT s q.1 q.2 ∧ va_RA s q.1 q.2 := by
  obtain ⟨c0, h0⟩ := ev_a1 (hts _ ac_int.1) (fun _ => rfl)
  obtain ⟨c1, h1⟩ := ev_a1 (hts _ ac_long.1) (fun _ => rfl)
  obtain ⟨c2, h2⟩ := ev_a1 (hts _ ac_byte.1) (fun _ => rfl)
  obtain ⟨c3, h3⟩ := ev_a1 (hts _ ac_boolean.1) (fun _ => rfl)
  obtain ⟨c4, h4⟩ := ev_aP hP
  refine ⟨fun j => [c0, c1, c2, c3, c4].getD j 0, fun k q hq => ?_⟩
  rcases Nat.lt_or_ge k 5 with hk | hk
  · rcases (show k = 0 ∨ k = 1 ∨ k = 2 ∨ k = 3 ∨ k = 4 by omega) with rfl | rfl | rfl | rfl | rfl
    · cases hq; exact h0
    · cases hq; exact h1
    · cases hq; exact h2
    · cases hq; exact h3
    · cases hq; exact h4
  · rw [List.getElem?_eq_none (show (fr_ty _).length ≤ k from hk)] at hq
    cases hq
