set_option maxRecDepth 100000 in
theorem fx_run_30 : fx_run (fx_tab fx_qs) 20000 fw_30 (fx_jo 2147483678 2147483678) := by decide +kernel
