set_option maxRecDepth 100000 in
theorem fx_c0 : fx_mokB 0 = true := by decide +kernel
set_option maxRecDepth 100000 in
theorem fx_c1 : fx_mokB 1 = true := by decide +kernel
set_option maxRecDepth 100000 in
theorem fx_c2 : fx_mokB 2 = true := by decide +kernel
set_option maxRecDepth 100000 in
theorem fx_c3 : fx_mokB 3 = true := by decide +kernel
set_option maxRecDepth 100000 in
theorem fx_c4 : fx_mokB 4 = true := by decide +kernel
set_option maxRecDepth 100000 in
theorem fx_c5 : fx_mokB 5 = true := by decide +kernel
set_option maxRecDepth 100000 in
theorem fx_c6 : fx_mokB 6 = true := by decide +kernel
set_option maxRecDepth 100000 in
theorem fx_c7 : fx_mokB 7 = true := by decide +kernel
set_option maxRecDepth 100000 in
theorem fx_c8 : fx_mokB 8 = true := by decide +kernel
set_option maxRecDepth 100000 in
theorem fx_c9 : fx_mokB 9 = true := by decide +kernel
set_option maxRecDepth 100000 in
theorem fx_c10 : fx_mokB 10 = true := by decide +kernel
set_option maxRecDepth 100000 in
theorem fx_c11 : fx_mokB 11 = true := by decide +kernel
set_option maxRecDepth 100000 in
theorem fx_c12 : fx_mokB 12 = true := by decide +kernel
set_option maxRecDepth 100000 in
theorem fx_c13 : fx_mokB 13 = true := by decide +kernel
set_option maxRecDepth 100000 in
theorem fx_c14 : fx_mokB 14 = true := by decide +kernel
set_option maxRecDepth 100000 in
theorem fx_c15 : fx_mokB 15 = true := by decide +kernel
theorem fx_ck0 : ∀ c, c < 16 → fx_mokB (0 + c) = true := by
  intro c hc
  rcases (by omega : c = 0 ∨ c = 1 ∨ c = 2 ∨ c = 3 ∨ c = 4 ∨ c = 5 ∨ c = 6 ∨ c = 7 ∨ c = 8 ∨ c = 9 ∨ c = 10 ∨ c = 11 ∨ c = 12 ∨ c = 13 ∨ c = 14 ∨ c = 15) with rfl | rfl | rfl | rfl | rfl | rfl | rfl | rfl | rfl | rfl | rfl | rfl | rfl | rfl | rfl | rfl
  · exact fx_c0
  · exact fx_c1
  · exact fx_c2
  · exact fx_c3
  · exact fx_c4
  · exact fx_c5
  · exact fx_c6
  · exact fx_c7
  · exact fx_c8
  · exact fx_c9
  · exact fx_c10
  · exact fx_c11
  · exact fx_c12
  · exact fx_c13
  · exact fx_c14
  · exact fx_c15
