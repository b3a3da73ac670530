set_option maxRecDepth 100000 in
theorem fx_c32 : fx_mokB 32 = true := by decide +kernel
set_option maxRecDepth 100000 in
theorem fx_c33 : fx_mokB 33 = true := by decide +kernel
set_option maxRecDepth 100000 in
theorem fx_c34 : fx_mokB 34 = true := by decide +kernel
set_option maxRecDepth 100000 in
theorem fx_c35 : fx_mokB 35 = true := by decide +kernel
set_option maxRecDepth 100000 in
theorem fx_c36 : fx_mokB 36 = true := by decide +kernel
set_option maxRecDepth 100000 in
theorem fx_c37 : fx_mokB 37 = true := by decide +kernel
set_option maxRecDepth 100000 in
theorem fx_c38 : fx_mokB 38 = true := by decide +kernel
set_option maxRecDepth 100000 in
theorem fx_c39 : fx_mokB 39 = true := by decide +kernel
set_option maxRecDepth 100000 in
theorem fx_c40 : fx_mokB 40 = true := by decide +kernel
set_option maxRecDepth 100000 in
theorem fx_c41 : fx_mokB 41 = true := by decide +kernel
set_option maxRecDepth 100000 in
theorem fx_c42 : fx_mokB 42 = true := by decide +kernel
set_option maxRecDepth 100000 in
theorem fx_c43 : fx_mokB 43 = true := by decide +kernel
set_option maxRecDepth 100000 in
theorem fx_c44 : fx_mokB 44 = true := by decide +kernel
set_option maxRecDepth 100000 in
theorem fx_c45 : fx_mokB 45 = true := by decide +kernel
set_option maxRecDepth 100000 in
theorem fx_c46 : fx_mokB 46 = true := by decide +kernel
set_option maxRecDepth 100000 in
theorem fx_c47 : fx_mokB 47 = true := by decide +kernel
set_option maxRecDepth 100000 in
theorem fx_c48 : fx_mokB 48 = true := by decide +kernel
set_option maxRecDepth 100000 in
theorem fx_c49 : fx_mokB 49 = true := by decide +kernel
set_option maxRecDepth 100000 in
theorem fx_c50 : fx_mokB 50 = true := by decide +kernel
set_option maxRecDepth 100000 in
theorem fx_c51 : fx_mokB 51 = true := by decide +kernel
set_option maxRecDepth 100000 in
theorem fx_c52 : fx_mokB 52 = true := by decide +kernel
set_option maxRecDepth 100000 in
theorem fx_c53 : fx_mokB 53 = true := by decide +kernel
set_option maxRecDepth 100000 in
theorem fx_c54 : fx_mokB 54 = true := by decide +kernel
set_option maxRecDepth 100000 in
theorem fx_c55 : fx_mokB 55 = true := by decide +kernel
set_option maxRecDepth 100000 in
theorem fx_c56 : fx_mokB 56 = true := by decide +kernel
set_option maxRecDepth 100000 in
theorem fx_c57 : fx_mokB 57 = true := by decide +kernel
set_option maxRecDepth 100000 in
theorem fx_c58 : fx_mokB 58 = true := by decide +kernel
set_option maxRecDepth 100000 in
theorem fx_c59 : fx_mokB 59 = true := by decide +kernel
set_option maxRecDepth 100000 in
theorem fx_c60 : fx_mokB 60 = true := by decide +kernel
set_option maxRecDepth 100000 in
theorem fx_c61 : fx_mokB 61 = true := by decide +kernel
set_option maxRecDepth 100000 in
theorem fx_c62 : fx_mokB 62 = true := by decide +kernel
set_option maxRecDepth 100000 in
theorem fx_c63 : fx_mokB 63 = true := by decide +kernel
theorem fx_ck2 : ∀ c, c < 16 → fx_mokB (32 + c) = true := by
  intro c hc
  rcases (by omega : c = 0 ∨ c = 1 ∨ c = 2 ∨ c = 3 ∨ c = 4 ∨ c = 5 ∨ c = 6 ∨ c = 7 ∨ c = 8 ∨ c = 9 ∨ c = 10 ∨ c = 11 ∨ c = 12 ∨ c = 13 ∨ c = 14 ∨ c = 15) with rfl | rfl | rfl | rfl | rfl | rfl | rfl | rfl | rfl | rfl | rfl | rfl | rfl | rfl | rfl | rfl
  · exact fx_c32
  · exact fx_c33
  · exact fx_c34
  · exact fx_c35
  · exact fx_c36
  · exact fx_c37
  · exact fx_c38
  · exact fx_c39
  · exact fx_c40
  · exact fx_c41
  · exact fx_c42
  · exact fx_c43
  · exact fx_c44
  · exact fx_c45
  · exact fx_c46
  · exact fx_c47
theorem fx_ck3 : ∀ c, c < 16 → fx_mokB (48 + c) = true := by
  intro c hc
  rcases (by omega : c = 0 ∨ c = 1 ∨ c = 2 ∨ c = 3 ∨ c = 4 ∨ c = 5 ∨ c = 6 ∨ c = 7 ∨ c = 8 ∨ c = 9 ∨ c = 10 ∨ c = 11 ∨ c = 12 ∨ c = 13 ∨ c = 14 ∨ c = 15) with rfl | rfl | rfl | rfl | rfl | rfl | rfl | rfl | rfl | rfl | rfl | rfl | rfl | rfl | rfl | rfl
  · exact fx_c48
  · exact fx_c49
  · exact fx_c50
  · exact fx_c51
  · exact fx_c52
  · exact fx_c53
  · exact fx_c54
  · exact fx_c55
  · exact fx_c56
  · exact fx_c57
  · exact fx_c58
  · exact fx_c59
  · exact fx_c60
  · exact fx_c61
  · exact fx_c62
  · exact fx_c63
