set_option maxRecDepth 100000 in
theorem fx_run_32 : fx_run (fx_tab fx_qs) 20000 fw_32 (fx_jo 2147483680 2147483680) := by decide +kernel
