theorem zTW_I : ∀ w ∈ zTI, w ∈ lw_tbl := by decide +kernel
theorem zTW_X : ∀ w ∈ zTX, w ∈ lw_tbl := by decide +kernel
theorem zTW_S : ∀ w ∈ zTS, w ∈ lw_tbl := by decide +kernel
theorem zTW_N : ∀ w ∈ zTN, w ∈ lw_tbl := by decide +kernel
