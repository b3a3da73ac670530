set_option maxRecDepth 100000 in
theorem fx_lw_0 : fx_codB 17 false (some .boolean) 4 code fw_0 = true := by decide +kernel
set_option maxRecDepth 100000 in
theorem fx_lw_1 : fx_codB 17 false (some .boolean) 4 code fw_1 = true := by decide +kernel
set_option maxRecDepth 100000 in
theorem fx_lw_2 : fx_codB 17 false (some .boolean) 4 code fw_2 = true := by decide +kernel
set_option maxRecDepth 100000 in
theorem fx_lw_3 : fx_codB 17 false (some .boolean) 4 code fw_3 = true := by decide +kernel
set_option maxRecDepth 100000 in
theorem fx_lw_4 : fx_codB 17 false (some .boolean) 4 code fw_4 = true := by decide +kernel
set_option maxRecDepth 100000 in
theorem fx_lw_5 : fx_codB 17 false (some .boolean) 4 code fw_5 = true := by decide +kernel
set_option maxRecDepth 100000 in
theorem fx_lw_6 : fx_codB 17 false (some .boolean) 4 code fw_6 = true := by decide +kernel
set_option maxRecDepth 100000 in
theorem fx_lw_7 : fx_codB 17 false (some .boolean) 4 code fw_7 = true := by decide +kernel
set_option maxRecDepth 100000 in
theorem fx_lw_8 : fx_codB 17 false (some .boolean) 4 code fw_8 = true := by decide +kernel
set_option maxRecDepth 100000 in
theorem fx_lw_9 : fx_codB 17 false (some .boolean) 4 code fw_9 = true := by decide +kernel
set_option maxRecDepth 100000 in
theorem fx_lw_10 : fx_codB 17 false (some .boolean) 4 code fw_10 = true := by decide +kernel
set_option maxRecDepth 100000 in
theorem fx_lw_11 : fx_codB 17 false (some .boolean) 4 code fw_11 = true := by decide +kernel
set_option maxRecDepth 100000 in
theorem fx_lw_12 : fx_codB 17 false (some .boolean) 4 code fw_12 = true := by decide +kernel
set_option maxRecDepth 100000 in
theorem fx_lw_13 : fx_codB 17 false (some .boolean) 4 code fw_13 = true := by decide +kernel
set_option maxRecDepth 100000 in
theorem fx_lw_14 : fx_codB 17 false (some .boolean) 4 code fw_14 = true := by decide +kernel
set_option maxRecDepth 100000 in
theorem fx_lw_15 : fx_codB 17 false (some .boolean) 4 code fw_15 = true := by decide +kernel
set_option maxRecDepth 100000 in
theorem fx_lw_16 : fx_codB 17 false (some .boolean) 4 code fw_16 = true := by decide +kernel
set_option maxRecDepth 100000 in
theorem fx_lw_17 : fx_codB 17 false (some .boolean) 4 code fw_17 = true := by decide +kernel
set_option maxRecDepth 100000 in
theorem fx_lw_18 : fx_codB 17 false (some .boolean) 4 code fw_18 = true := by decide +kernel
set_option maxRecDepth 100000 in
theorem fx_lw_19 : fx_codB 17 false (some .boolean) 4 code fw_19 = true := by decide +kernel
set_option maxRecDepth 100000 in
theorem fx_lw_20 : fx_codB 17 false (some .boolean) 4 code fw_20 = true := by decide +kernel
set_option maxRecDepth 100000 in
theorem fx_lw_21 : fx_codB 17 false (some .boolean) 4 code fw_21 = true := by decide +kernel
set_option maxRecDepth 100000 in
theorem fx_lw_22 : fx_codB 17 false (some .boolean) 4 code fw_22 = true := by decide +kernel
set_option maxRecDepth 100000 in
theorem fx_lw_23 : fx_codB 17 false (some .boolean) 4 code fw_23 = true := by decide +kernel
set_option maxRecDepth 100000 in
theorem fx_lw_24 : fx_codB 17 false (some .boolean) 4 code fw_24 = true := by decide +kernel
set_option maxRecDepth 100000 in
theorem fx_lw_25 : fx_codB 17 false (some .boolean) 4 code fw_25 = true := by decide +kernel
set_option maxRecDepth 100000 in
theorem fx_lw_26 : fx_codB 17 false (some .boolean) 4 code fw_26 = true := by decide +kernel
set_option maxRecDepth 100000 in
theorem fx_lw_27 : fx_codB 17 false (some .boolean) 4 code fw_27 = true := by decide +kernel
set_option maxRecDepth 100000 in
theorem fx_lw_28 : fx_codB 17 false (some .boolean) 4 code fw_28 = true := by decide +kernel
set_option maxRecDepth 100000 in
theorem fx_lw_29 : fx_codB 17 false (some .boolean) 4 code fw_29 = true := by decide +kernel
set_option maxRecDepth 100000 in
theorem fx_lw_30 : fx_codB 17 false (some .boolean) 4 code fw_30 = true := by decide +kernel
set_option maxRecDepth 100000 in
theorem fx_lw_31 : fx_codB 17 false (some .boolean) 4 code fw_31 = true := by decide +kernel
set_option maxRecDepth 100000 in
theorem fx_lw_32 : fx_codB 17 false (some .boolean) 4 code fw_32 = true := by decide +kernel
set_option maxRecDepth 100000 in
theorem fx_lw_33 : fx_codB 17 false (some .boolean) 4 code fw_33 = true := by decide +kernel
set_option maxRecDepth 100000 in
theorem fx_lw_34 : fx_codB 17 false (some .boolean) 4 code fw_34 = true := by decide +kernel
set_option maxRecDepth 100000 in
theorem fx_lw_35 : fx_codB 17 false (some .boolean) 4 code fw_35 = true := by decide +kernel
set_option maxRecDepth 100000 in
theorem fx_lw_36 : fx_codB 17 false (some .boolean) 4 code fw_36 = true := by decide +kernel
set_option maxRecDepth 100000 in
theorem fx_lw_37 : fx_codB 17 false (some .boolean) 4 code fw_37 = true := by decide +kernel
set_option maxRecDepth 100000 in
theorem fx_lw_38 : fx_codB 17 false (some .boolean) 4 code fw_38 = true := by decide +kernel
set_option maxRecDepth 100000 in
theorem fx_lw_39 : fx_codB 17 false (some .boolean) 4 code fw_39 = true := by decide +kernel
set_option maxRecDepth 100000 in
theorem fx_lw_40 : fx_codB 17 false (some .boolean) 4 code fw_40 = true := by decide +kernel
set_option maxRecDepth 100000 in
theorem fx_lw_41 : fx_codB 17 false (some .boolean) 4 code fw_41 = true := by decide +kernel
set_option maxRecDepth 100000 in
theorem fx_lw_42 : fx_codB 17 false (some .boolean) 4 code fw_42 = true := by decide +kernel
set_option maxRecDepth 100000 in
theorem fx_lw_43 : fx_codB 17 false (some .boolean) 4 code fw_43 = true := by decide +kernel
set_option maxRecDepth 100000 in
theorem fx_lw_44 : fx_codB 17 false (some .boolean) 4 code fw_44 = true := by decide +kernel
set_option maxRecDepth 100000 in
theorem fx_lw_45 : fx_codB 17 false (some .boolean) 4 code fw_45 = true := by decide +kernel
