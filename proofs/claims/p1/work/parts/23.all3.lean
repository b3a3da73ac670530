set_option maxRecDepth 100000 in
theorem fx_c64 : fx_mokB 64 = true := by decide +kernel
set_option maxRecDepth 100000 in
theorem fx_c65 : fx_mokB 65 = true := by decide +kernel
set_option maxRecDepth 100000 in
theorem fx_c66 : fx_mokB 66 = true := by decide +kernel
set_option maxRecDepth 100000 in
theorem fx_c67 : fx_mokB 67 = true := by decide +kernel
set_option maxRecDepth 100000 in
theorem fx_c68 : fx_mokB 68 = true := by decide +kernel
set_option maxRecDepth 100000 in
theorem fx_c69 : fx_mokB 69 = true := by decide +kernel
set_option maxRecDepth 100000 in
theorem fx_c70 : fx_mokB 70 = true := by decide +kernel
set_option maxRecDepth 100000 in
theorem fx_c71 : fx_mokB 71 = true := by decide +kernel
set_option maxRecDepth 100000 in
theorem fx_c72 : fx_mokB 72 = true := by decide +kernel
set_option maxRecDepth 100000 in
theorem fx_c73 : fx_mokB 73 = true := by decide +kernel
set_option maxRecDepth 100000 in
theorem fx_c74 : fx_mokB 74 = true := by decide +kernel
set_option maxRecDepth 100000 in
theorem fx_c75 : fx_mokB 75 = true := by decide +kernel
set_option maxRecDepth 100000 in
theorem fx_c76 : fx_mokB 76 = true := by decide +kernel
set_option maxRecDepth 100000 in
theorem fx_c77 : fx_mokB 77 = true := by decide +kernel
set_option maxRecDepth 100000 in
theorem fx_c78 : fx_mokB 78 = true := by decide +kernel
set_option maxRecDepth 100000 in
theorem fx_c79 : fx_mokB 79 = true := by decide +kernel
set_option maxRecDepth 100000 in
theorem fx_c80 : fx_mokB 80 = true := by decide +kernel
set_option maxRecDepth 100000 in
theorem fx_c81 : fx_mokB 81 = true := by decide +kernel
set_option maxRecDepth 100000 in
theorem fx_c82 : fx_mokB 82 = true := by decide +kernel
set_option maxRecDepth 100000 in
theorem fx_c83 : fx_mokB 83 = true := by decide +kernel
set_option maxRecDepth 100000 in
theorem fx_c84 : fx_mokB 84 = true := by decide +kernel
set_option maxRecDepth 100000 in
theorem fx_c85 : fx_mokB 85 = true := by decide +kernel
set_option maxRecDepth 100000 in
theorem fx_c86 : fx_mokB 86 = true := by decide +kernel
set_option maxRecDepth 100000 in
theorem fx_c87 : fx_mokB 87 = true := by decide +kernel
set_option maxRecDepth 100000 in
theorem fx_c88 : fx_mokB 88 = true := by decide +kernel
set_option maxRecDepth 100000 in
theorem fx_c89 : fx_mokB 89 = true := by decide +kernel
set_option maxRecDepth 100000 in
theorem fx_c90 : fx_mokB 90 = true := by decide +kernel
set_option maxRecDepth 100000 in
theorem fx_c91 : fx_mokB 91 = true := by decide +kernel
set_option maxRecDepth 100000 in
theorem fx_c92 : fx_mokB 92 = true := by decide +kernel
set_option maxRecDepth 100000 in
theorem fx_c93 : fx_mokB 93 = true := by decide +kernel
set_option maxRecDepth 100000 in
theorem fx_c94 : fx_mokB 94 = true := by decide +kernel
set_option maxRecDepth 100000 in
theorem fx_c95 : fx_mokB 95 = true := by decide +kernel
set_option maxRecDepth 100000 in
theorem fx_c96 : fx_mokB 96 = true := by decide +kernel
set_option maxRecDepth 100000 in
theorem fx_c97 : fx_mokB 97 = true := by decide +kernel
set_option maxRecDepth 100000 in
theorem fx_c98 : fx_mokB 98 = true := by decide +kernel
set_option maxRecDepth 100000 in
theorem fx_c99 : fx_mokB 99 = true := by decide +kernel
set_option maxRecDepth 100000 in
theorem fx_c100 : fx_mokB 100 = true := by decide +kernel
set_option maxRecDepth 100000 in
theorem fx_c101 : fx_mokB 101 = true := by decide +kernel
set_option maxRecDepth 100000 in
theorem fx_c102 : fx_mokB 102 = true := by decide +kernel
set_option maxRecDepth 100000 in
theorem fx_c103 : fx_mokB 103 = true := by decide +kernel
set_option maxRecDepth 100000 in
theorem fx_c104 : fx_mokB 104 = true := by decide +kernel
set_option maxRecDepth 100000 in
theorem fx_c105 : fx_mokB 105 = true := by decide +kernel
set_option maxRecDepth 100000 in
theorem fx_c106 : fx_mokB 106 = true := by decide +kernel
set_option maxRecDepth 100000 in
theorem fx_c107 : fx_mokB 107 = true := by decide +kernel
set_option maxRecDepth 100000 in
theorem fx_c108 : fx_mokB 108 = true := by decide +kernel
set_option maxRecDepth 100000 in
theorem fx_c109 : fx_mokB 109 = true := by decide +kernel
set_option maxRecDepth 100000 in
theorem fx_c110 : fx_mokB 110 = true := by decide +kernel
set_option maxRecDepth 100000 in
theorem fx_c111 : fx_mokB 111 = true := by decide +kernel
theorem fx_ck4 : ∀ c, c < 16 → fx_mokB (64 + c) = true := by
  intro c hc
  rcases (by omega : c = 0 ∨ c = 1 ∨ c = 2 ∨ c = 3 ∨ c = 4 ∨ c = 5 ∨ c = 6 ∨ c = 7 ∨ c = 8 ∨ c = 9 ∨ c = 10 ∨ c = 11 ∨ c = 12 ∨ c = 13 ∨ c = 14 ∨ c = 15) with rfl | rfl | rfl | rfl | rfl | rfl | rfl | rfl | rfl | rfl | rfl | rfl | rfl | rfl | rfl | rfl
  · exact fx_c64
  · exact fx_c65
  · exact fx_c66
  · exact fx_c67
  · exact fx_c68
  · exact fx_c69
  · exact fx_c70
  · exact fx_c71
  · exact fx_c72
  · exact fx_c73
  · exact fx_c74
  · exact fx_c75
  · exact fx_c76
  · exact fx_c77
  · exact fx_c78
  · exact fx_c79
theorem fx_ck5 : ∀ c, c < 16 → fx_mokB (80 + c) = true := by
  intro c hc
  rcases (by omega : c = 0 ∨ c = 1 ∨ c = 2 ∨ c = 3 ∨ c = 4 ∨ c = 5 ∨ c = 6 ∨ c = 7 ∨ c = 8 ∨ c = 9 ∨ c = 10 ∨ c = 11 ∨ c = 12 ∨ c = 13 ∨ c = 14 ∨ c = 15) with rfl | rfl | rfl | rfl | rfl | rfl | rfl | rfl | rfl | rfl | rfl | rfl | rfl | rfl | rfl | rfl
  · exact fx_c80
  · exact fx_c81
  · exact fx_c82
  · exact fx_c83
  · exact fx_c84
  · exact fx_c85
  · exact fx_c86
  · exact fx_c87
  · exact fx_c88
  · exact fx_c89
  · exact fx_c90
  · exact fx_c91
  · exact fx_c92
  · exact fx_c93
  · exact fx_c94
  · exact fx_c95
theorem fx_ck6 : ∀ c, c < 16 → fx_mokB (96 + c) = true := by
  intro c hc
  rcases (by omega : c = 0 ∨ c = 1 ∨ c = 2 ∨ c = 3 ∨ c = 4 ∨ c = 5 ∨ c = 6 ∨ c = 7 ∨ c = 8 ∨ c = 9 ∨ c = 10 ∨ c = 11 ∨ c = 12 ∨ c = 13 ∨ c = 14 ∨ c = 15) with rfl | rfl | rfl | rfl | rfl | rfl | rfl | rfl | rfl | rfl | rfl | rfl | rfl | rfl | rfl | rfl
  · exact fx_c96
  · exact fx_c97
  · exact fx_c98
  · exact fx_c99
  · exact fx_c100
  · exact fx_c101
  · exact fx_c102
  · exact fx_c103
  · exact fx_c104
  · exact fx_c105
  · exact fx_c106
  · exact fx_c107
  · exact fx_c108
  · exact fx_c109
  · exact fx_c110
  · exact fx_c111
