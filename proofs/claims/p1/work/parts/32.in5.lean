theorem wt_X6_in : ∀ w ∈ wsX60, w ∈ lw_tbl := memIn_r _ [324, 326, 328, 330, 332, 334, 336] (by decide +kernel)
