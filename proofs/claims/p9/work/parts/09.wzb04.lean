set_option maxRecDepth 20000 in
theorem wl_wsX70 : ∀ w ∈ wsX70, w ∈ lw_tbl := by decide +kernel
set_option maxRecDepth 20000 in
theorem wl_wsJxde1cd0 : ∀ w ∈ wsJxde1cd0, w ∈ lw_tbl := by decide +kernel
