set_option maxRecDepth 100000 in
theorem fx_run_41 : fx_run (fx_tab fx_qs) 20000 fw_41 (fx_jo 2147483689 2147483689) := by decide +kernel
set_option maxRecDepth 100000 in
theorem fx_run_25 : fx_run (fx_tab fx_qs) 20000 fw_25 (fx_jo 2147483673 2147483673) := by decide +kernel
