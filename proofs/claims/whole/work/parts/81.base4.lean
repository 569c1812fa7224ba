/-! the formatter; characters of the strings -/
section STRX
variable {E : Et} {l : Launch} {d mc ms : Nat} {Z : Zt} {cc : ByteArray} {nL : Nat} {y : MethodName} {ret : Option FieldType} {pc k n ix i : Nat} {lv : List (Nat × Value)} {rest : List Value} {ws : va_W}
theorem v_getSI (X : Cx E l d mc ms Z cc nL y ret) (hl0 : okIn (.fieldLink y.cls ix "jdk/internal/util/Preconditions" "SIOOBE_FORMATTER" "Ljava/util/function/BiFunction;")) (h : decode cc pc = .ok (.getstatic ix, 3)) (kk : V E Z (pc + 3) lv (va_rf (eF E) :: rest) ws k n) : V E Z pc lv rest ws k n := fun H locs ls hP hD hS hl => va_gets X.ex X.bb (X.ev.2.2.2.2.2.2.2.2.narrow X.ab) hS X.ow (X.ev.w hl0) (fun _ z => z) h (kk H locs ls hP hD hS hl)
end STRX
def chN (i j : Nat) : Nat := ((st_tx.getD i []).getD j 0).toNatClampNeg
theorem st_ch : ∀ i, i < 20 → ∀ j, j < (st_tx.getD i []).length → (st_tx.getD i []).getD j 0 = nI (chN i j) ∧ 97 ≤ chN i j ∧ chN i j ≤ 122 := by decide +kernel
theorem st_c1 {i j : Nat} (hi : i < 20) (hj : j < (st_tx.getD i []).length) : (st_tx.getD i []).getD j 0 = nI (chN i j) := (st_ch i hi j hj).1
theorem c_and : ∀ c, c < 128 → ((nI c &&& nI 255).toUInt32 % 65536).toInt32 = nI c := by decide +kernel
theorem nb_ch : ∀ c, c < 128 → narrow .char (.int (nI c)) = .int (nI c) := by decide +kernel
theorem st_lt {i j : Nat} (hi : i < 20) (hj : j < (st_tx.getD i []).length) : chN i j < 128 := by have := (st_ch i hi j hj).2; omega
theorem st_ge {i j : Nat} (hi : i < 20) (hj : j < (st_tx.getD i []).length) : 97 ≤ chN i j := (st_ch i hi j hj).2.1
def pkF (b i : Nat) : Nat → Nat := foldN (fun j v => v * b + (chN i j - 97 + 1)) 0
theorem pkS_x (b i : Nat) : ∃ r, r = pkF b i (st_tx.getD i []).length := ⟨_, rfl⟩
noncomputable def pkS (b i : Nat) : Nat := Classical.choose (pkS_x b i)
theorem pkS_e (b i : Nat) : pkS b i = pkF b i (st_tx.getD i []).length := Classical.choose_spec (pkS_x b i)
