theorem fx_law_new : fx_codB 17 false (some .boolean) 4 code (fw_new.filter (fun q => !Nat.beq q.2.1 28)) = true := by decide +kernel
theorem fx_law_short : fx_codB 17 false (some .boolean) 4 code fw_short = true := by decide +kernel
theorem fx_nst_in : ∀ q ∈ fx_nst, Cond.methodLinkNest q.1 q.2.1 q.2.2.1 q.2.2.2 ∈ lw_tbl := by decide +kernel
theorem fx_str_in : Cond.stringRef "FaceSenate$Tape" 39 fx_lit ∈ lw_tbl := by decide +kernel
theorem fx_sts_in : Cond.laysStatic "java/lang/String" "COMPACT_STRINGS" "Z" ∈ lw_tbl ∧ Cond.initialized "java/lang/String" ∈ lw_tbl ∧ Cond.laysStatic "jdk/internal/util/Preconditions" "SIOOBE_FORMATTER" "Ljava/util/function/BiFunction;" ∈ lw_tbl ∧ Cond.initialized "jdk/internal/util/Preconditions" ∈ lw_tbl := by decide +kernel
abbrev fx_tm : Term := Term.string "FaceSenate$Tape" 39
abbrev fx_tv : Term := Term.field fx_tm "java/lang/String" "value" "[B"
set_option maxRecDepth 100000 in
theorem fx_nar_in : Cond.exactly fx_tm "java/lang/String" ∈ flatC (Jvm.Cond.and given_1 narrow_1) ∧ Cond.eq (.field fx_tm "java/lang/String" "coder" "B") (.int 0) ∈ flatC (Jvm.Cond.and given_1 narrow_1) ∧ Cond.arrayOf fx_tv .byte ∈ flatC (Jvm.Cond.and given_1 narrow_1) ∧ Cond.eq (.length fx_tv) (.int (Int32.ofNat 123)) ∈ flatC (Jvm.Cond.and given_1 narrow_1) ∧ Cond.eq (.static "java/lang/String" "COMPACT_STRINGS" "Z") (.int 1) ∈ flatC (Jvm.Cond.and given_1 narrow_1) ∧ Cond.isRef (.static "jdk/internal/util/Preconditions" "SIOOBE_FORMATTER" "Ljava/util/function/BiFunction;") ∈ flatC (Jvm.Cond.and given_1 narrow_1) := by decide +kernel
set_option maxRecDepth 100000 in
theorem fx_nar_el : ∀ j, j < 123 → Cond.eq (.elem fx_tv (.int (Int32.ofNat j))) (.int (Int32.ofNat (fx_txt.getD j 0))) ∈ flatC (Jvm.Cond.and given_1 narrow_1) := by decide +kernel
