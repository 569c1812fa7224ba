/-! calls on the first cells of a world -/
theorem pf_get (wc wr : va_W) : (List.range' 0 wc.length).map (fun i => (wc ++ wr)[i]?) = wc.map some := by
  refine List.ext_getElem (by simp) (fun k h1 h2 => ?_)
  simp at h1
  simp [List.getElem_range', List.getElem?_append_left, h1]
theorem pf_put : ∀ (T T' P R : va_W), T'.length = T.length → wput (P ++ (T ++ R)) (List.range' P.length T.length) T' = P ++ (T' ++ R)
  | [], [], P, R, _ => rfl
  | [], _ :: _, _, _, h => by simp at h
  | _ :: _, [], _, _, h => by simp at h
  | t :: T, t' :: T', P, R, h => by
    rw [List.length_cons, List.range'_succ, wput]
    have e : (P ++ (t :: T ++ R)).set P.length t' = (P ++ [t']) ++ (T ++ R) := by
      rw [List.set_append_right _ _ (Nat.le_refl _), Nat.sub_self, List.cons_append, List.set_cons_zero, List.append_assoc]; rfl
    have h2 := pf_put T T' (P ++ [t']) R (by simpa using h)
    rw [e]
    rw [List.length_append] at h2
    simpa [List.append_assoc] using h2
theorem v_wrVP {E : Et} {l : Launch} {d mc ms : Nat} {Z : Zt} {cc : ByteArray} {nL : Nat} {y : MethodName} {ret : Option FieldType} {pc k n mc' ms' : Nat} {lv : List (Nat × Value)} {rest st0 : List Value} {ws wc w' wr ws' : va_W} (X : Cx E l d mc ms Z cc nL y ret) (R : Rn E Z k n mc' ms' pc st0 rest wc (wrV w')) (hws : ws = wc ++ wr) (hf : w'.map Prod.fst = wc.map Prod.fst) (hw : w' ++ wr = ws') (kk : V E Z (pc + 3) lv rest ws' (k + mc') (n + ms')) : V E Z pc lv st0 ws k n := by
  subst hws
  subst hw
  have hl : w'.length = wc.length := by
    have := congrArg List.length hf
    simpa using this
  refine v_wr X R (List.range' 0 wc.length) (nd_rg _ _) (pf_get wc wr) (fun r w1 h => ?_)
  obtain ⟨rfl, rfl⟩ := h
  refine ⟨hf, ?_⟩
  have e := pf_put wc w1 [] wr hl
  rw [List.nil_append, List.nil_append, List.length_nil] at e
  rw [e]
  exact kk
