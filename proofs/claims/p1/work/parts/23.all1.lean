set_option maxRecDepth 100000 in
theorem fx_c16 : fx_mokB 16 = true := by decide +kernel
set_option maxRecDepth 100000 in
theorem fx_c17 : fx_mokB 17 = true := by decide +kernel
set_option maxRecDepth 100000 in
theorem fx_c18 : fx_mokB 18 = true := by decide +kernel
set_option maxRecDepth 100000 in
theorem fx_c19 : fx_mokB 19 = true := by decide +kernel
set_option maxRecDepth 100000 in
theorem fx_c20 : fx_mokB 20 = true := by decide +kernel
set_option maxRecDepth 100000 in
theorem fx_c21 : fx_mokB 21 = true := by decide +kernel
set_option maxRecDepth 100000 in
theorem fx_c22 : fx_mokB 22 = true := by decide +kernel
set_option maxRecDepth 100000 in
theorem fx_c23 : fx_mokB 23 = true := by decide +kernel
set_option maxRecDepth 100000 in
theorem fx_c24 : fx_mokB 24 = true := by decide +kernel
set_option maxRecDepth 100000 in
theorem fx_c25 : fx_mokB 25 = true := by decide +kernel
set_option maxRecDepth 100000 in
theorem fx_c26 : fx_mokB 26 = true := by decide +kernel
set_option maxRecDepth 100000 in
theorem fx_c27 : fx_mokB 27 = true := by decide +kernel
set_option maxRecDepth 100000 in
theorem fx_c28 : fx_mokB 28 = true := by decide +kernel
set_option maxRecDepth 100000 in
theorem fx_c29 : fx_mokB 29 = true := by decide +kernel
set_option maxRecDepth 100000 in
theorem fx_c30 : fx_mokB 30 = true := by decide +kernel
set_option maxRecDepth 100000 in
theorem fx_c31 : fx_mokB 31 = true := by decide +kernel
theorem fx_ck1 : ∀ c, c < 16 → fx_mokB (16 + c) = true := by
  intro c hc
  rcases (by omega : c = 0 ∨ c = 1 ∨ c = 2 ∨ c = 3 ∨ c = 4 ∨ c = 5 ∨ c = 6 ∨ c = 7 ∨ c = 8 ∨ c = 9 ∨ c = 10 ∨ c = 11 ∨ c = 12 ∨ c = 13 ∨ c = 14 ∨ c = 15) with rfl | rfl | rfl | rfl | rfl | rfl | rfl | rfl | rfl | rfl | rfl | rfl | rfl | rfl | rfl | rfl
  · exact fx_c16
  · exact fx_c17
  · exact fx_c18
  · exact fx_c19
  · exact fx_c20
  · exact fx_c21
  · exact fx_c22
  · exact fx_c23
  · exact fx_c24
  · exact fx_c25
  · exact fx_c26
  · exact fx_c27
  · exact fx_c28
  · exact fx_c29
  · exact fx_c30
  · exact fx_c31
