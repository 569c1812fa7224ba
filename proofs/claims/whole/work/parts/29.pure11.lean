theorem nI_xor (a b : Nat) : nI a ^^^ nI b = nI (a ^^^ b) := by
  apply Int32.toBitVec_inj.1
  show BitVec.ofNat 32 a ^^^ BitVec.ofNat 32 b = BitVec.ofNat 32 (a ^^^ b)
  apply BitVec.eq_of_getLsbD_eq
  intro i hi
  simp [BitVec.getLsbD_ofNat, hi]
/-! calls where a segment of pages lies behind the world -/
section TAIL
theorem sg_len {E : Et} {pa : Nat → Nat × Nat × Nat} {pk : Nat → Pv} : ∀ (n i : Nat), (sg E pa pk i n).length = 3 * n
  | 0, _ => rfl
  | n + 1, i => by rw [sg, List.length_cons, List.length_cons, List.length_cons, sg_len n (i + 1)]; omega
theorem sg_fst {E : Et} {pa : Nat → Nat × Nat × Nat} {pk pk' : Nat → Pv} : ∀ (n i : Nat), (sg E pa pk i n).map Prod.fst = (sg E pa pk' i n).map Prod.fst
  | 0, _ => rfl
  | n + 1, i => by rw [sg, sg, List.map_cons, List.map_cons, List.map_cons, List.map_cons, List.map_cons, List.map_cons, sg_fst n (i + 1)]
theorem tl_fst {w w' T T' : va_W} (h : w'.map Prod.fst = w.map Prod.fst) (h2 : T'.map Prod.fst = T.map Prod.fst) : (w' ++ T').map Prod.fst = (w ++ T).map Prod.fst := by rw [List.map_append, List.map_append, h, h2]
theorem tl_get {P T w : va_W} {s n : Nat} (is : List Nat) (hP : P.length = s) (hT : T.length = n) (h : is.map (fun i => P[i]?) = w.map some) : (is ++ List.range' s n).map (fun i => (P ++ T)[i]?) = (w ++ T).map some := by
  subst hP hT
  rw [List.map_append, List.map_append, ← h]
  congr 1
  · refine List.map_congr_left (fun i hi => ?_)
    have h1 : P[i]? ∈ w.map some := by rw [← h]; exact List.mem_map.mpr ⟨i, hi, rfl⟩
    obtain ⟨q, -, hq⟩ := List.mem_map.mp h1
    exact List.getElem?_append_left (List.getElem?_eq_some_iff.mp hq.symm).1
  · refine List.ext_getElem (by simp) (fun k h1 h2 => ?_)
    simp at h1
    simp [List.getElem_range', List.getElem?_append_right, h1]
theorem nd_rg : ∀ (n s : Nat), va_nd (List.range' s n) = true
  | 0, _ => rfl
  | n + 1, s => by
    rw [List.range'_succ]
    simp only [va_nd, Bool.and_eq_true, decide_eq_true_eq]
    exact ⟨fun h => by have := List.mem_range'.mp h; omega, nd_rg n (s + 1)⟩
theorem tl_nd {s : Nat} (n : Nat) : ∀ (is : List Nat), va_nd is = true → (∀ i ∈ is, i < s) → va_nd (is ++ List.range' s n) = true
  | [], _, _ => nd_rg n s
  | i :: is, h, hl => by
    rw [List.cons_append]
    simp only [va_nd, Bool.and_eq_true, decide_eq_true_eq] at h ⊢
    refine ⟨fun hm => ?_, tl_nd n is h.2 (fun j hj => hl j (List.mem_cons_of_mem _ hj))⟩
    rcases List.mem_append.mp hm with hm | hm
    · exact h.1 hm
    · have h1 := List.mem_range'.mp hm
      have h2 := hl i List.mem_cons_self
      omega
theorem wput_rg : ∀ (T T' P : va_W), T'.length = T.length → wput (P ++ T) (List.range' P.length T.length) T' = P ++ T'
  | [], [], P, _ => rfl
  | [], _ :: _, _, h => by simp at h
  | _ :: _, [], _, h => by simp at h
  | t :: T, t' :: T', P, h => by
    rw [List.length_cons, List.range'_succ, wput]
    have e : (P ++ t :: T).set P.length t' = (P ++ [t']) ++ T := by
      rw [List.set_append_right _ _ (Nat.le_refl _), Nat.sub_self, List.set_cons_zero, List.append_assoc]; rfl
    have h2 := wput_rg T T' (P ++ [t']) (by simpa using h)
    rw [e]
    rw [List.length_append] at h2
    simpa [List.append_assoc] using h2
theorem tl_put {T T' : va_W} {s n : Nat} : ∀ (is : List Nat) (w' P : va_W), P.length = s → T.length = n → T'.length = n → is.length = w'.length → (∀ i ∈ is, i < s) → wput (P ++ T) (is ++ List.range' s n) (w' ++ T') = wput P is w' ++ T'
  | [], [], P, hP, hT, hT', _, _ => by subst hP hT; exact wput_rg T T' P hT'
  | [], _ :: _, _, _, _, _, h, _ => by simp at h
  | _ :: _, [], _, _, _, _, h, _ => by simp at h
  | i :: is, e :: w', P, hP, hT, hT', hl, hi => by
    rw [List.cons_append, List.cons_append, wput, wput, List.set_append_left _ _ (by rw [hP]; exact hi i List.mem_cons_self)]
    exact tl_put is w' (P.set i e) (by rw [List.length_set, hP]) hT hT' (by simpa using hl) (fun j hj => hi j (List.mem_cons_of_mem _ hj))
end TAIL
