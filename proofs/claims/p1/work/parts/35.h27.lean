set_option maxRecDepth 100000 in
theorem fx_run_27 : fx_run (fx_tab fx_qs) 20000 fw_27 (fx_jo 2147483675 2147483675) := by decide +kernel
