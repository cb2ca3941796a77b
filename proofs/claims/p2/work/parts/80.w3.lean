set_option maxRecDepth 20000 in
theorem bL_9_in : ∀ w ∈ wsX90, w ∈ lw_tbl := by decide +kernel
set_option maxRecDepth 20000 in
theorem bL_10_in : ∀ w ∈ wsX100, w ∈ lw_tbl := by decide +kernel
set_option maxRecDepth 20000 in
theorem bL_7_in : ∀ w ∈ wsX70, w ∈ lw_tbl := by decide +kernel
set_option maxRecDepth 20000 in
theorem bL_4_in : ∀ w ∈ wsX40, w ∈ lw_tbl := by decide +kernel
set_option maxRecDepth 20000 in
theorem bL_6_in : ∀ w ∈ wsX60, w ∈ lw_tbl := by decide +kernel
set_option maxRecDepth 20000 in
theorem bL_0_in : ∀ w ∈ wsX00, w ∈ lw_tbl := by decide +kernel
set_option maxRecDepth 20000 in
theorem bL_1_in : ∀ w ∈ wsX10, w ∈ lw_tbl := by decide +kernel
set_option maxRecDepth 20000 in
theorem bL_3_in : ∀ w ∈ wsX30, w ∈ lw_tbl := by decide +kernel
set_option maxRecDepth 20000 in
theorem bL_8_in : ∀ w ∈ wsX80, w ∈ lw_tbl := by decide +kernel
set_option maxRecDepth 20000 in
theorem bL_5_in : ∀ w ∈ wsX50, w ∈ lw_tbl := by decide +kernel
theorem wsL_law_in : ∀ w ∈ wsL_law, w ∈ lw_tbl := (List.forall_mem_append.mpr ⟨(List.forall_mem_append.mpr ⟨(List.forall_mem_append.mpr ⟨(List.forall_mem_append.mpr ⟨(List.forall_mem_append.mpr ⟨(List.forall_mem_append.mpr ⟨(List.forall_mem_append.mpr ⟨(List.forall_mem_append.mpr ⟨(List.forall_mem_append.mpr ⟨(List.forall_mem_append.mpr ⟨(List.forall_mem_append.mpr ⟨(List.forall_mem_append.mpr ⟨rL_1_in, (List.forall_mem_append.mpr ⟨rL_2_in, (List.forall_mem_append.mpr ⟨rL_3_in, (List.forall_mem_append.mpr ⟨rL_4_in, (List.forall_mem_append.mpr ⟨rL_5_in, (List.forall_mem_append.mpr ⟨rL_6_in, (List.forall_mem_append.mpr ⟨rL_7_in, (List.forall_mem_append.mpr ⟨rL_8_in, (List.forall_mem_append.mpr ⟨rL_9_in, (List.forall_mem_append.mpr ⟨rL_10_in, (List.forall_mem_append.mpr ⟨rL_11_in, (List.forall_mem_append.mpr ⟨rL_12_in, (List.forall_mem_append.mpr ⟨rL_13_in, (List.forall_mem_append.mpr ⟨rL_14_in, (List.forall_mem_append.mpr ⟨rL_15_in, (List.forall_mem_append.mpr ⟨rL_16_in, (List.forall_mem_append.mpr ⟨rL_17_in, (List.forall_mem_append.mpr ⟨rL_18_in, (List.forall_mem_append.mpr ⟨rL_19_in, (List.forall_mem_append.mpr ⟨rL_20_in, (List.forall_mem_append.mpr ⟨rL_21_in, (List.forall_mem_append.mpr ⟨rL_22_in, (List.forall_mem_append.mpr ⟨rL_23_in, (List.forall_mem_append.mpr ⟨rL_24_in, (List.forall_mem_append.mpr ⟨rL_25_in, (List.forall_mem_append.mpr ⟨rL_26_in, (List.forall_mem_append.mpr ⟨rL_27_in, (List.forall_mem_append.mpr ⟨rL_28_in, (List.forall_mem_append.mpr ⟨rL_29_in, (List.forall_mem_append.mpr ⟨rL_30_in, (List.forall_mem_append.mpr ⟨rL_31_in, (List.forall_mem_append.mpr ⟨rL_32_in, (List.forall_mem_append.mpr ⟨rL_33_in, (List.forall_mem_append.mpr ⟨rL_34_in, (List.forall_mem_append.mpr ⟨rL_35_in, (List.forall_mem_append.mpr ⟨rL_36_in, (List.forall_mem_append.mpr ⟨rL_37_in, (List.forall_mem_append.mpr ⟨rL_38_in, (List.forall_mem_append.mpr ⟨rL_39_in, (List.forall_mem_append.mpr ⟨rL_40_in, (List.forall_mem_append.mpr ⟨rL_41_in, (List.forall_mem_append.mpr ⟨rL_42_in, (List.forall_mem_append.mpr ⟨rL_43_in, (List.forall_mem_append.mpr ⟨rL_44_in, rL_45_in⟩)⟩)⟩)⟩)⟩)⟩)⟩)⟩)⟩)⟩)⟩)⟩)⟩)⟩)⟩)⟩)⟩)⟩)⟩)⟩)⟩)⟩)⟩)⟩)⟩)⟩)⟩)⟩)⟩)⟩)⟩)⟩)⟩)⟩)⟩)⟩)⟩)⟩)⟩)⟩)⟩)⟩)⟩)⟩), bL_9_in⟩), bL_10_in⟩), bL_7_in⟩), bL_4_in⟩), bL_6_in⟩), bL_0_in⟩), bL_1_in⟩), bL_3_in⟩), bL_8_in⟩), bL_5_in⟩), fun _ h => absurd h List.not_mem_nil⟩)
