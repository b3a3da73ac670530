set_option maxRecDepth 100000 in
theorem fx_run_31 : fx_run (fx_tab fx_qs) 20000 fw_31 (fx_jo 2147483679 2147483679) := by decide +kernel
