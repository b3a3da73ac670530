set_option maxRecDepth 100000 in
theorem fx_run_0 : fx_run fx_s0z 20000 fw_0 (fx_jo 2147483648 2147483648) := by decide +kernel
set_option maxRecDepth 100000 in
theorem fx_run_1 : fx_run fx_s0z 20000 fw_1 (fx_jo 2147483649 2147483649) := by decide +kernel
set_option maxRecDepth 100000 in
theorem fx_run_2 : fx_run fx_s0z 20000 fw_2 (fx_jo 2147483650 2147483650) := by decide +kernel
set_option maxRecDepth 100000 in
theorem fx_run_3 : fx_run fx_s0z 20000 fw_3 (fx_jo 2147483651 2147483651) := by decide +kernel
set_option maxRecDepth 100000 in
theorem fx_run_4 : fx_run fx_s0z 20000 fw_4 (fx_jo 2147483652 2147483652) := by decide +kernel
set_option maxRecDepth 100000 in
theorem fx_run_5 : fx_run fx_s0z 20000 fw_5 (fx_jo 2147483653 2147483653) := by decide +kernel
set_option maxRecDepth 100000 in
theorem fx_run_6 : fx_run fx_s0z 20000 fw_6 (fx_jo 2147483654 2147483654) := by decide +kernel
set_option maxRecDepth 100000 in
theorem fx_run_7 : fx_run fx_s0z 20000 fw_7 (fx_jo 2147483655 2147483655) := by decide +kernel
set_option maxRecDepth 100000 in
theorem fx_run_8 : fx_run fx_s0z 20000 fw_8 (fx_jo 2147483656 2147483656) := by decide +kernel
set_option maxRecDepth 100000 in
theorem fx_run_9 : fx_run fx_s0z 20000 fw_9 (fx_jo 2147483657 2147483657) := by decide +kernel
set_option maxRecDepth 100000 in
theorem fx_run_10 : fx_run fx_s0z 20000 fw_10 (fx_jo 2147483658 2147483658) := by decide +kernel
set_option maxRecDepth 100000 in
theorem fx_run_11 : fx_run fx_s0z 20000 fw_11 (fx_jo 2147483659 2147483659) := by decide +kernel
set_option maxRecDepth 100000 in
theorem fx_run_12 : fx_run fx_s0z 20000 fw_12 (fx_jo 2147483660 2147483660) := by decide +kernel
set_option maxRecDepth 100000 in
theorem fx_run_13 : fx_run fx_s0z 20000 fw_13 (fx_jo 2147483661 2147483661) := by decide +kernel
set_option maxRecDepth 100000 in
theorem fx_run_14 : fx_run fx_s0z 20000 fw_14 (fx_jo 2147483662 2147483662) := by decide +kernel
set_option maxRecDepth 100000 in
theorem fx_run_15 : fx_run fx_s0z 20000 fw_15 (fx_jo 2147483663 2147483663) := by decide +kernel
set_option maxRecDepth 100000 in
theorem fx_run_16 : fx_run fx_s0z 20000 fw_16 (fx_jo 2147483664 2147483664) := by decide +kernel
set_option maxRecDepth 100000 in
theorem fx_run_17 : fx_run fx_s0z 20000 fw_17 (fx_jo 2147483665 2147483665) := by decide +kernel
set_option maxRecDepth 100000 in
theorem fx_run_18 : fx_run fx_s0z 20000 fw_18 (fx_jo 2147483666 2147483666) := by decide +kernel
set_option maxRecDepth 100000 in
theorem fx_run_19 : fx_run fx_s0z 20000 fw_19 (fx_jo 2147483667 2147483667) := by decide +kernel
set_option maxRecDepth 100000 in
theorem fx_run_20 : fx_run fx_s0z 20000 fw_20 (fx_jo 2147483668 2147483668) := by decide +kernel
set_option maxRecDepth 100000 in
theorem fx_run_21 : fx_run fx_s0z 20000 fw_21 (fx_jo 2147483669 2147483669) := by decide +kernel
set_option maxRecDepth 100000 in
theorem fx_run_22 : fx_run fx_s0z 20000 fw_22 (fx_jo 2147483670 2147483670) := by decide +kernel
set_option maxRecDepth 100000 in
theorem fx_run_23 : fx_run fx_s0z 20000 fw_23 (fx_jo 2147483671 2147483671) := by decide +kernel
set_option maxRecDepth 100000 in
theorem fx_run_24 : fx_run fx_s0z 20000 fw_24 (fx_jo 2147483672 2147483672) := by decide +kernel
set_option maxRecDepth 100000 in
theorem fx_run_26 : fx_run fx_s0z 20000 fw_26 (fx_jo 2147483674 2147483674) := by decide +kernel
set_option maxRecDepth 100000 in
theorem fx_run_28 : fx_run fx_s0z 20000 fw_28 (fx_jo 2147483676 2147483676) := by decide +kernel
set_option maxRecDepth 100000 in
theorem fx_run_29 : fx_run fx_s0z 20000 fw_29 (fx_jo 2147483677 2147483677) := by decide +kernel
set_option maxRecDepth 100000 in
theorem fx_run_33 : fx_run fx_s0z 20000 fw_33 (fx_jo 2147483681 2147483681) := by decide +kernel
set_option maxRecDepth 100000 in
theorem fx_run_34 : fx_run fx_s0z 20000 fw_34 (fx_jo 2147483682 2147483682) := by decide +kernel
set_option maxRecDepth 100000 in
theorem fx_run_35 : fx_run fx_s0z 20000 fw_35 (fx_jo 2147483683 2147483683) := by decide +kernel
set_option maxRecDepth 100000 in
theorem fx_run_36 : fx_run fx_s0z 20000 fw_36 (fx_jo 2147483684 2147483684) := by decide +kernel
set_option maxRecDepth 100000 in
theorem fx_run_37 : fx_run fx_s0z 20000 fw_37 (fx_jo 2147483685 2147483685) := by decide +kernel
set_option maxRecDepth 100000 in
theorem fx_run_38 : fx_run fx_s0z 20000 fw_38 (fx_jo 2147483686 2147483686) := by decide +kernel
set_option maxRecDepth 100000 in
theorem fx_run_39 : fx_run fx_s0z 20000 fw_39 (fx_jo 2147483687 2147483687) := by decide +kernel
set_option maxRecDepth 100000 in
theorem fx_run_40 : fx_run fx_s0z 20000 fw_40 (fx_jo 2147483688 2147483688) := by decide +kernel
set_option maxRecDepth 100000 in
theorem fx_run_42 : fx_run fx_s0z 20000 fw_42 (fx_jo 2147483690 2147483690) := by decide +kernel
set_option maxRecDepth 100000 in
theorem fx_run_43 : fx_run fx_s0z 20000 fw_43 (fx_jo 2147483691 2147483691) := by decide +kernel
set_option maxRecDepth 100000 in
theorem fx_run_44 : fx_run fx_s0z 20000 fw_44 (fx_jo 2147483692 2147483692) := by decide +kernel
