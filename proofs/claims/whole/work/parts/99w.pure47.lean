/-! the pages of a new past -/
def pg0 (_ : Nat) : Pv := (fun _ => 0, fun _ => nI 0, 0, 0)
def upA (pa : Nat → Nat × Nat × Nat) (n : Nat) (q : Nat × Nat × Nat) : Nat → Nat × Nat × Nat := fun j => if j = n then q else pa j
section NEWP
variable {E : Et} {pa pa' : Nat → Nat × Nat × Nat} {pk : Nat → Pv}
theorem sg_cg : ∀ (n i : Nat), (∀ j, i ≤ j → j < i + n → pa j = pa' j) → sg E pa pk i n = sg E pa' pk i n
  | 0, i, _ => rfl
  | n + 1, i, h => by
    rw [sg, sg, h i (Nat.le_refl _) (by omega), sg_cg n (i + 1) (fun j h1 h2 => h j (by omega) (by omega))]
theorem sg_sn : ∀ (n i : Nat), sg E pa pk i n ++ pgW E (pa (i + n)) (pk (i + n)) = sg E pa pk i (n + 1)
  | 0, i => rfl
  | n + 1, i => by
    have ih := sg_sn n (i + 1)
    rw [show i + 1 + n = i + (n + 1) by omega] at ih
    show _ :: _ :: _ :: (sg E pa pk (i + 1) n ++ pgW E (pa (i + (n + 1))) (pk (i + (n + 1)))) = _ :: _ :: _ :: sg E pa pk (i + 1) (n + 1)
    rw [ih]
theorem seg_add (a : va_W) (n : Nat) (q : Nat × Nat × Nat) : (a ++ seg E pa n pg0) ++ pgW E q (pg0 n) = a ++ seg E (upA pa n q) (n + 1) pg0 := by
  rw [List.append_assoc]
  have h1 : seg E pa n pg0 = seg E (upA pa n q) n pg0 := sg_cg n 0 (fun j _ h2 => by unfold upA; rw [if_neg (by omega)])
  have h2 := sg_sn (E := E) (pa := upA pa n q) (pk := pg0) n 0
  rw [Nat.zero_add, show upA pa n q n = q by unfold upA; rw [if_pos rfl]] at h2
  rw [h1, h2]
theorem pa_up {vf : Nat → Option Nat} {n : Nat} {q : Nat × Nat × Nat} (h : ∀ i, i < n → vf i = some (pa i).1) : ∀ i, i < n + 1 → va_up vf n (some q.1) i = some (upA pa n q i).1 := by
  intro i hi
  unfold upA
  by_cases z : i = n
  · subst z
    rw [va_up_self, if_pos rfl]
  · rw [va_up_ne _ _ z, if_neg z]
    exact h i (by omega)
end NEWP
theorem V.arP {E : Et} {Z : Zt} {pc k n : Nat} {lv : List (Nat × Value)} {st : List Value} {ws ws' : va_W} (q0 : Nat) {a m : Nat} {g g' : Nat → Option Nat} (he : ws[q0]? = some (aP E a m g)) (h : ∀ j, j < m → g j = g' j) (hw : ws.set q0 (aP E a m g') = ws') (kk : V E Z pc lv st ws' k n) : V E Z pc lv st ws k n :=
  V.arr q0 (x' := (m, .inr (.inr (.inr (.inr g'))))) he (by rw [vp_cell_q, vp_cell_q]; exact arrV_cong (fun j hj => by rw [h j hj])) hw kk
