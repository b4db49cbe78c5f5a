theorem we_93 : Cond.classLink RL 7 RX4 ∈ lw_tbl := List.mem_of_getElem? (i := 93) (by decide +kernel)
theorem wd_93 : Cond.classLink RL 7 RX4 ∈ base := List.mem_filter.mpr ⟨we_93, rfl⟩
theorem we_94 : Cond.instantiable RX4 8 ∈ lw_tbl := List.mem_of_getElem? (i := 94) (by decide +kernel)
theorem wd_94 : Cond.instantiable RX4 8 ∈ base := List.mem_filter.mpr ⟨we_94, rfl⟩
theorem we_100 : Cond.code objectInit ⟨#[0xb1]⟩ 1 none ∈ lw_tbl := List.mem_of_getElem? (i := 100) (by decide +kernel)
theorem wd_100 : Cond.code objectInit ⟨#[0xb1]⟩ 1 none ∈ base := List.mem_filter.mpr ⟨we_100, rfl⟩
theorem we_101 : Cond.classLink RX4 9 RX0 ∈ lw_tbl := List.mem_of_getElem? (i := 101) (by decide +kernel)
theorem wd_101 : Cond.classLink RX4 9 RX0 ∈ base := List.mem_filter.mpr ⟨we_101, rfl⟩
theorem we_102 : Cond.instantiable RX0 9 ∈ lw_tbl := List.mem_of_getElem? (i := 102) (by decide +kernel)
theorem wd_102 : Cond.instantiable RX0 9 ∈ base := List.mem_filter.mpr ⟨we_102, rfl⟩
theorem we_147 : Cond.arrayClass .int ∈ lw_tbl := List.mem_of_getElem? (i := 147) (by decide +kernel)
theorem wd_147 : Cond.arrayClass .int ∈ base := List.mem_filter.mpr ⟨we_147, rfl⟩
theorem we_148 : Cond.arrayClass .boolean ∈ lw_tbl := List.mem_of_getElem? (i := 148) (by decide +kernel)
theorem wd_148 : Cond.arrayClass .boolean ∈ base := List.mem_filter.mpr ⟨we_148, rfl⟩
theorem we_149 : Cond.classLink RX4 22 RX1 ∈ lw_tbl := List.mem_of_getElem? (i := 149) (by decide +kernel)
theorem wd_149 : Cond.classLink RX4 22 RX1 ∈ base := List.mem_filter.mpr ⟨we_149, rfl⟩
theorem we_150 : Cond.instantiable RX1 4 ∈ lw_tbl := List.mem_of_getElem? (i := 150) (by decide +kernel)
theorem wd_150 : Cond.instantiable RX1 4 ∈ base := List.mem_filter.mpr ⟨we_150, rfl⟩
theorem we_155 : Cond.classLink RX1 9 RX0 ∈ lw_tbl := List.mem_of_getElem? (i := 155) (by decide +kernel)
theorem wd_155 : Cond.classLink RX1 9 RX0 ∈ base := List.mem_filter.mpr ⟨we_155, rfl⟩
theorem we_172 : Cond.classLink RX4 29 RX3 ∈ lw_tbl := List.mem_of_getElem? (i := 172) (by decide +kernel)
theorem wd_172 : Cond.classLink RX4 29 RX3 ∈ base := List.mem_filter.mpr ⟨we_172, rfl⟩
theorem we_173 : Cond.instantiable RX3 7 ∈ lw_tbl := List.mem_of_getElem? (i := 173) (by decide +kernel)
theorem wd_173 : Cond.instantiable RX3 7 ∈ base := List.mem_filter.mpr ⟨we_173, rfl⟩
theorem we_201 : Cond.classLink RX4 36 RX2 ∈ lw_tbl := List.mem_of_getElem? (i := 201) (by decide +kernel)
theorem wd_201 : Cond.classLink RX4 36 RX2 ∈ base := List.mem_filter.mpr ⟨we_201, rfl⟩
theorem we_202 : Cond.arrayOver (.object "TortoiseShelves$Sheet") ∈ lw_tbl := List.mem_of_getElem? (i := 202) (by decide +kernel)
theorem we_203 : Cond.instantiable RX2 3 ∈ lw_tbl := List.mem_of_getElem? (i := 203) (by decide +kernel)
theorem wd_203 : Cond.instantiable RX2 3 ∈ base := List.mem_filter.mpr ⟨we_203, rfl⟩
theorem we_223 : Cond.arrayClass .long ∈ lw_tbl := List.mem_of_getElem? (i := 223) (by decide +kernel)
theorem wd_223 : Cond.arrayClass .long ∈ base := List.mem_filter.mpr ⟨we_223, rfl⟩
theorem we_359 : Cond.laysStatic "TortoiseShelves" "KIND_ABOVE" "[I" ∈ lw_tbl := List.mem_of_getElem? (i := 359) (by decide +kernel)
theorem we_638 : Cond.laysStatic "java/lang/String" "COMPACT_STRINGS" "Z" ∈ lw_tbl := List.mem_of_getElem? (i := 638) (by decide +kernel)
theorem we_654 : Cond.laysStatic "jdk/internal/util/Preconditions" "SIOOBE_FORMATTER" "Ljava/util/function/BiFunction;" ∈ lw_tbl := List.mem_of_getElem? (i := 654) (by decide +kernel)
theorem we_672 : Cond.laysStatic "java/lang/StringUTF16" "$assertionsDisabled" "Z" ∈ lw_tbl := List.mem_of_getElem? (i := 672) (by decide +kernel)
theorem we_674 : Cond.laysStatic "java/lang/StringUTF16" "HI_BYTE_SHIFT" "I" ∈ lw_tbl := List.mem_of_getElem? (i := 674) (by decide +kernel)
theorem we_676 : Cond.laysStatic "java/lang/StringUTF16" "LO_BYTE_SHIFT" "I" ∈ lw_tbl := List.mem_of_getElem? (i := 676) (by decide +kernel)
theorem we_708 : Cond.arrayClass .byte ∈ lw_tbl := List.mem_of_getElem? (i := 708) (by decide +kernel)
theorem wd_708 : Cond.arrayClass .byte ∈ base := List.mem_filter.mpr ⟨we_708, rfl⟩
theorem we_790 : Cond.classLink RL 10 RX5 ∈ lw_tbl := List.mem_of_getElem? (i := 790) (by decide +kernel)
theorem wd_790 : Cond.classLink RL 10 RX5 ∈ base := List.mem_filter.mpr ⟨we_790, rfl⟩
theorem we_791 : Cond.instantiable RX5 17 ∈ lw_tbl := List.mem_of_getElem? (i := 791) (by decide +kernel)
theorem wd_791 : Cond.instantiable RX5 17 ∈ base := List.mem_filter.mpr ⟨we_791, rfl⟩
