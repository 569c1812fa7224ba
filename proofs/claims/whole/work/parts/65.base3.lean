/-! posts with what doesn't matter left open -/
def jwI {α : Type} (W : α → va_W) (x : Int32) : Option Value → va_W → Prop := fun r w => (∃ a, w = W a) ∧ r = some (.int x)
def jwL {α : Type} (W : α → va_W) (x : Int64) : Option Value → va_W → Prop := fun r w => (∃ a, w = W a) ∧ r = some (.long x)
def jwV {α : Type} (W : α → va_W) : Option Value → va_W → Prop := fun r w => (∃ a, w = W a) ∧ r = none
def jwrI {α : Type} (W : α → va_W) (x : Int32) : Option Value → va_W → Prop := jwI W x
def jwrL {α : Type} (W : α → va_W) (x : Int64) : Option Value → va_W → Prop := jwL W x
theorem jwrI_of {α : Type} {W : α → va_W} {x v : Int32} {ws : va_W} (a : α) (hw : ws = W a) (h : v = x) : jwrI W x (some (.int v)) ws := ⟨⟨a, hw⟩, by rw [h]⟩
theorem jwrL_of {α : Type} {W : α → va_W} {x v : Int64} {ws : va_W} (a : α) (hw : ws = W a) (h : v = x) : jwrL W x (some (.long v)) ws := ⟨⟨a, hw⟩, by rw [h]⟩
theorem jwV_of {α : Type} {W : α → va_W} {ws : va_W} (a : α) (hw : ws = W a) : jwV W none ws := ⟨⟨a, hw⟩, rfl⟩
section JUNK
variable {E : Et} {l : Launch} {d mc ms : Nat} {Z : Zt} {cc : ByteArray} {nL : Nat} {y : MethodName} {ret : Option FieldType} {pc k n mc' ms' : Nat} {lv : List (Nat × Value)} {rest st0 : List Value} {ws wc : va_W} {α : Type} {W W' : α → va_W}
theorem v_jwrI1 (X : Cx E l d mc ms Z cc nL y ret) {x : Int32} (R : Rn E Z k n mc' ms' pc st0 rest wc (jwrI W x)) (isC : List Nat) (hn : va_nd isC = true) (hC : isC.map (fun i => ws[i]?) = wc.map some) (hf : ∀ a, (W a).map Prod.fst = wc.map Prod.fst) (hw : ∀ a, wput ws isC (W a) = W' a) (kk : ∀ a, V E Z (pc + 3) lv (.int x :: rest) (W' a) (k + mc') (n + ms')) : V E Z pc lv st0 ws k n :=
  v_wr X R isC hn hC (fun r w1 h => by obtain ⟨⟨a, rfl⟩, rfl⟩ := h; exact ⟨hf a, by rw [hw a]; exact kk a⟩)
theorem v_jwrL1 (X : Cx E l d mc ms Z cc nL y ret) {x : Int64} (R : Rn E Z k n mc' ms' pc st0 rest wc (jwrL W x)) (isC : List Nat) (hn : va_nd isC = true) (hC : isC.map (fun i => ws[i]?) = wc.map some) (hf : ∀ a, (W a).map Prod.fst = wc.map Prod.fst) (hw : ∀ a, wput ws isC (W a) = W' a) (kk : ∀ a, V E Z (pc + 3) lv (.long x :: rest) (W' a) (k + mc') (n + ms')) : V E Z pc lv st0 ws k n :=
  v_wr X R isC hn hC (fun r w1 h => by obtain ⟨⟨a, rfl⟩, rfl⟩ := h; exact ⟨hf a, by rw [hw a]; exact kk a⟩)
theorem v_jwrV1 (X : Cx E l d mc ms Z cc nL y ret) (R : Rn E Z k n mc' ms' pc st0 rest wc (jwV W)) (isC : List Nat) (hn : va_nd isC = true) (hC : isC.map (fun i => ws[i]?) = wc.map some) (hf : ∀ a, (W a).map Prod.fst = wc.map Prod.fst) (hw : ∀ a, wput ws isC (W a) = W' a) (kk : ∀ a, V E Z (pc + 3) lv rest (W' a) (k + mc') (n + ms')) : V E Z pc lv st0 ws k n :=
  v_wr X R isC hn hC (fun r w1 h => by obtain ⟨⟨a, rfl⟩, rfl⟩ := h; exact ⟨hf a, by rw [hw a]; exact kk a⟩)
end JUNK
