set_option maxRecDepth 100000 in
theorem fx_run_30b : fx_run (fx_tab fx_qt) 80000 fw_30 (fx_j30 2147483649 4294967295) := by decide +kernel
