theorem mw_max2 : okIn (.initialized "java/lang/Math") := ⟨tm1 (List.mem_of_getElem? (i := 13) (by decide +kernel)), by decide +kernel⟩
theorem mw_min2 : okIn (.initialized "java/lang/Math") := ⟨tm1 (List.mem_of_getElem? (i := 13) (by decide +kernel)), by decide +kernel⟩
theorem oi_X6 : okIn (.methodLink RX6 3 Lib.objectInit) := ⟨tm1 (List.mem_of_getElem? (i := 26) (by decide +kernel)), by decide +kernel⟩
theorem oi_inst : okIn (.instanceMethod Lib.objectInit) := ⟨tm1 (List.mem_of_getElem? (i := 27) (by decide +kernel)), by decide +kernel⟩
theorem oi_code : okIn (.code Lib.objectInit ⟨#[0xb1]⟩ 1 none) := ⟨tm1 (List.mem_of_getElem? (i := 28) (by decide +kernel)), by decide +kernel⟩
theorem oi_X4 : okIn (.methodLink RX4 3 Lib.objectInit) := ⟨tm1 (List.mem_of_getElem? (i := 34) (by decide +kernel)), by decide +kernel⟩
theorem oi_X0 : okIn (.methodLink RX0 3 Lib.objectInit) := ⟨tm1 (List.mem_of_getElem? (i := 98) (by decide +kernel)), by decide +kernel⟩
theorem oi_X2 : okIn (.methodLink RX2 3 Lib.objectInit) := ⟨tm2 (List.mem_of_getElem? (i := 7) (by decide +kernel)), by decide +kernel⟩
theorem oi_X3 : okIn (.methodLink RX3 3 Lib.objectInit) := ⟨tm2 (List.mem_of_getElem? (i := 32) (by decide +kernel)), by decide +kernel⟩
theorem oi_X1 : okIn (.methodLink RX1 3 Lib.objectInit) := ⟨tm2 (List.mem_of_getElem? (i := 59) (by decide +kernel)), by decide +kernel⟩
theorem oi_X5 : okIn (.methodLink RX5 3 Lib.objectInit) := ⟨tm2 (List.mem_of_getElem? (i := 69) (by decide +kernel)), by decide +kernel⟩
theorem mw_min1 : okIn (.static Lib.Math.min.name) := ⟨tm2 (List.mem_of_getElem? (i := 137) (by decide +kernel)), by decide +kernel⟩
theorem mw_min3 : okIn (.code Lib.Math.min.name Lib.Math.min.code 2 (some .int)) := ⟨tm2 (List.mem_of_getElem? (i := 138) (by decide +kernel)), by decide +kernel⟩
theorem mw_max1 : okIn (.static Lib.Math.max.name) := ⟨tm3 (List.mem_of_getElem? (i := 54) (by decide +kernel)), by decide +kernel⟩
theorem mw_max3 : okIn (.code Lib.Math.max.name Lib.Math.max.code 2 (some .int)) := ⟨tm3 (List.mem_of_getElem? (i := 55) (by decide +kernel)), by decide +kernel⟩
theorem oi_X8 : okIn (.methodLink RX8 3 Lib.objectInit) := ⟨tm5 (List.mem_of_getElem? (i := 69) (by decide +kernel)), by decide +kernel⟩
theorem oi_X7 : okIn (.methodLink RX7 3 Lib.objectInit) := ⟨tm5 (List.mem_of_getElem? (i := 182) (by decide +kernel)), by decide +kernel⟩
