theorem clause_e {tp : Nat → Int32} {en c : Nat} {kwd : Nat → Int64} {nm : Rnm} {k : Tk} : clauseF tp en kwd c nm k = sb (nmS tp en kwd 3 c nm k) fun y => sb (wdS tp en 9 y.2) fun k1 => sb (pnS tp en kwd 1 0 y.1 k1) fun m => sb (sb (wdS tp en 10 m.2) (whS tp en 1 40)) fun ik => sb (foS tp en ik.2) fun fo => sb (pnS tp en kwd 2 0 y.1 fo.2) fun a =>
    if fo.1 ≤ 1 then .inr (y.1, m.1, ik.1, fo.1, a.1, -2, a.2) else sb (pnS tp en kwd 2 (2 ^ a.1) y.1 a.2) fun b => .inr (y.1, m.1, ik.1, fo.1, a.1, nI b.1, b.2) := by
  unfold clauseF
  cases nmS tp en kwd 3 c nm k with
  | inl e => rfl
  | inr y =>
    show sb (wdS tp en 9 y.2) _ = sb (wdS tp en 9 y.2) _
    cases wdS tp en 9 y.2 with
    | inl e => rfl
    | inr k1 =>
      show sb (pnS tp en kwd 1 0 y.1 k1) _ = sb (pnS tp en kwd 1 0 y.1 k1) _
      cases pnS tp en kwd 1 0 y.1 k1 with
      | inl e => rfl
      | inr m => exact (sb_as _ _ _).symm
