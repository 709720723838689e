theorem inX5 : ∀ w ∈ wsX50, w ∈ lw_tbl := by decide +kernel
