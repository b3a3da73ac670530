/-! the law: its script, its cases -/
theorem hu_law : ru_u fw_law = true := by decide +kernel
theorem ne_law : fx_to fw_law 1409 ≠ [] := ru_ne (by decide +kernel)
