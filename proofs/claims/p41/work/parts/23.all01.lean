set_option maxRecDepth 100000 in
theorem fx_c64 : fx_mokB 64 = true := by decide +kernel
set_option maxRecDepth 100000 in
theorem fx_c65 : fx_mokB 65 = true := by decide +kernel
set_option maxRecDepth 100000 in
theorem fx_c66 : fx_mokB 66 = true := by decide +kernel
set_option maxRecDepth 100000 in
theorem fx_c67 : fx_mokB 67 = true := by decide +kernel
set_option maxRecDepth 100000 in
theorem fx_c68 : fx_mokB 68 = true := by decide +kernel
set_option maxRecDepth 100000 in
theorem fx_c69 : fx_mokB 69 = true := by decide +kernel
set_option maxRecDepth 100000 in
theorem fx_c70 : fx_mokB 70 = true := by decide +kernel
set_option maxRecDepth 100000 in
theorem fx_c71 : fx_mokB 71 = true := by decide +kernel
set_option maxRecDepth 100000 in
theorem fx_c72 : fx_mokB 72 = true := by decide +kernel
set_option maxRecDepth 100000 in
theorem fx_c73 : fx_mokB 73 = true := by decide +kernel
set_option maxRecDepth 100000 in
theorem fx_c74 : fx_mokB 74 = true := by decide +kernel
set_option maxRecDepth 100000 in
theorem fx_c75 : fx_mokB 75 = true := by decide +kernel
set_option maxRecDepth 100000 in
theorem fx_c76 : fx_mokB 76 = true := by decide +kernel
set_option maxRecDepth 100000 in
theorem fx_c77 : fx_mokB 77 = true := by decide +kernel
set_option maxRecDepth 100000 in
theorem fx_c78 : fx_mokB 78 = true := by decide +kernel
set_option maxRecDepth 100000 in
theorem fx_c79 : fx_mokB 79 = true := by decide +kernel
theorem fx_ck4 : ∀ i, i < 16 → fx_mokB (64 + i) = true := by
  intro i hi
  rcases (by omega : i = 0 ∨ i = 1 ∨ i = 2 ∨ i = 3 ∨ i = 4 ∨ i = 5 ∨ i = 6 ∨ i = 7 ∨ i = 8 ∨ i = 9 ∨ i = 10 ∨ i = 11 ∨ i = 12 ∨ i = 13 ∨ i = 14 ∨ i = 15) with rfl | rfl | rfl | rfl | rfl | rfl | rfl | rfl | rfl | rfl | rfl | rfl | rfl | rfl | rfl | rfl
  · exact fx_c64
  · exact fx_c65
  · exact fx_c66
  · exact fx_c67
  · exact fx_c68
  · exact fx_c69
  · exact fx_c70
  · exact fx_c71
  · exact fx_c72
  · exact fx_c73
  · exact fx_c74
  · exact fx_c75
  · exact fx_c76
  · exact fx_c77
  · exact fx_c78
  · exact fx_c79
set_option maxRecDepth 100000 in
theorem fx_c80 : fx_mokB 80 = true := by decide +kernel
set_option maxRecDepth 100000 in
theorem fx_c81 : fx_mokB 81 = true := by decide +kernel
set_option maxRecDepth 100000 in
theorem fx_c82 : fx_mokB 82 = true := by decide +kernel
set_option maxRecDepth 100000 in
theorem fx_c83 : fx_mokB 83 = true := by decide +kernel
set_option maxRecDepth 100000 in
theorem fx_c84 : fx_mokB 84 = true := by decide +kernel
set_option maxRecDepth 100000 in
theorem fx_c85 : fx_mokB 85 = true := by decide +kernel
set_option maxRecDepth 100000 in
theorem fx_c86 : fx_mokB 86 = true := by decide +kernel
set_option maxRecDepth 100000 in
theorem fx_c87 : fx_mokB 87 = true := by decide +kernel
set_option maxRecDepth 100000 in
theorem fx_c88 : fx_mokB 88 = true := by decide +kernel
set_option maxRecDepth 100000 in
theorem fx_c89 : fx_mokB 89 = true := by decide +kernel
set_option maxRecDepth 100000 in
theorem fx_c90 : fx_mokB 90 = true := by decide +kernel
set_option maxRecDepth 100000 in
theorem fx_c91 : fx_mokB 91 = true := by decide +kernel
set_option maxRecDepth 100000 in
theorem fx_c92 : fx_mokB 92 = true := by decide +kernel
set_option maxRecDepth 100000 in
theorem fx_c93 : fx_mokB 93 = true := by decide +kernel
set_option maxRecDepth 100000 in
theorem fx_c94 : fx_mokB 94 = true := by decide +kernel
set_option maxRecDepth 100000 in
theorem fx_c95 : fx_mokB 95 = true := by decide +kernel
theorem fx_ck5 : ∀ i, i < 16 → fx_mokB (80 + i) = true := by
  intro i hi
  rcases (by omega : i = 0 ∨ i = 1 ∨ i = 2 ∨ i = 3 ∨ i = 4 ∨ i = 5 ∨ i = 6 ∨ i = 7 ∨ i = 8 ∨ i = 9 ∨ i = 10 ∨ i = 11 ∨ i = 12 ∨ i = 13 ∨ i = 14 ∨ i = 15) with rfl | rfl | rfl | rfl | rfl | rfl | rfl | rfl | rfl | rfl | rfl | rfl | rfl | rfl | rfl | rfl
  · exact fx_c80
  · exact fx_c81
  · exact fx_c82
  · exact fx_c83
  · exact fx_c84
  · exact fx_c85
  · exact fx_c86
  · exact fx_c87
  · exact fx_c88
  · exact fx_c89
  · exact fx_c90
  · exact fx_c91
  · exact fx_c92
  · exact fx_c93
  · exact fx_c94
  · exact fx_c95
set_option maxRecDepth 100000 in
theorem fx_c96 : fx_mokB 96 = true := by decide +kernel
set_option maxRecDepth 100000 in
theorem fx_c97 : fx_mokB 97 = true := by decide +kernel
set_option maxRecDepth 100000 in
theorem fx_c98 : fx_mokB 98 = true := by decide +kernel
set_option maxRecDepth 100000 in
theorem fx_c99 : fx_mokB 99 = true := by decide +kernel
set_option maxRecDepth 100000 in
theorem fx_c100 : fx_mokB 100 = true := by decide +kernel
set_option maxRecDepth 100000 in
theorem fx_c101 : fx_mokB 101 = true := by decide +kernel
set_option maxRecDepth 100000 in
theorem fx_c102 : fx_mokB 102 = true := by decide +kernel
set_option maxRecDepth 100000 in
theorem fx_c103 : fx_mokB 103 = true := by decide +kernel
set_option maxRecDepth 100000 in
theorem fx_c104 : fx_mokB 104 = true := by decide +kernel
set_option maxRecDepth 100000 in
theorem fx_c105 : fx_mokB 105 = true := by decide +kernel
set_option maxRecDepth 100000 in
theorem fx_c106 : fx_mokB 106 = true := by decide +kernel
set_option maxRecDepth 100000 in
theorem fx_c107 : fx_mokB 107 = true := by decide +kernel
set_option maxRecDepth 100000 in
theorem fx_c108 : fx_mokB 108 = true := by decide +kernel
set_option maxRecDepth 100000 in
theorem fx_c109 : fx_mokB 109 = true := by decide +kernel
set_option maxRecDepth 100000 in
theorem fx_c110 : fx_mokB 110 = true := by decide +kernel
set_option maxRecDepth 100000 in
theorem fx_c111 : fx_mokB 111 = true := by decide +kernel
theorem fx_ck6 : ∀ i, i < 16 → fx_mokB (96 + i) = true := by
  intro i hi
  rcases (by omega : i = 0 ∨ i = 1 ∨ i = 2 ∨ i = 3 ∨ i = 4 ∨ i = 5 ∨ i = 6 ∨ i = 7 ∨ i = 8 ∨ i = 9 ∨ i = 10 ∨ i = 11 ∨ i = 12 ∨ i = 13 ∨ i = 14 ∨ i = 15) with rfl | rfl | rfl | rfl | rfl | rfl | rfl | rfl | rfl | rfl | rfl | rfl | rfl | rfl | rfl | rfl
  · exact fx_c96
  · exact fx_c97
  · exact fx_c98
  · exact fx_c99
  · exact fx_c100
  · exact fx_c101
  · exact fx_c102
  · exact fx_c103
  · exact fx_c104
  · exact fx_c105
  · exact fx_c106
  · exact fx_c107
  · exact fx_c108
  · exact fx_c109
  · exact fx_c110
  · exact fx_c111
set_option maxRecDepth 100000 in
theorem fx_c112 : fx_mokB 112 = true := by decide +kernel
set_option maxRecDepth 100000 in
theorem fx_c113 : fx_mokB 113 = true := by decide +kernel
set_option maxRecDepth 100000 in
theorem fx_c114 : fx_mokB 114 = true := by decide +kernel
set_option maxRecDepth 100000 in
theorem fx_c115 : fx_mokB 115 = true := by decide +kernel
set_option maxRecDepth 100000 in
theorem fx_c116 : fx_mokB 116 = true := by decide +kernel
set_option maxRecDepth 100000 in
theorem fx_c117 : fx_mokB 117 = true := by decide +kernel
set_option maxRecDepth 100000 in
theorem fx_c118 : fx_mokB 118 = true := by decide +kernel
set_option maxRecDepth 100000 in
theorem fx_c119 : fx_mokB 119 = true := by decide +kernel
set_option maxRecDepth 100000 in
theorem fx_c120 : fx_mokB 120 = true := by decide +kernel
set_option maxRecDepth 100000 in
theorem fx_c121 : fx_mokB 121 = true := by decide +kernel
set_option maxRecDepth 100000 in
theorem fx_c122 : fx_mokB 122 = true := by decide +kernel
set_option maxRecDepth 100000 in
theorem fx_c123 : fx_mokB 123 = true := by decide +kernel
set_option maxRecDepth 100000 in
theorem fx_c124 : fx_mokB 124 = true := by decide +kernel
set_option maxRecDepth 100000 in
theorem fx_c125 : fx_mokB 125 = true := by decide +kernel
set_option maxRecDepth 100000 in
theorem fx_c126 : fx_mokB 126 = true := by decide +kernel
set_option maxRecDepth 100000 in
theorem fx_c127 : fx_mokB 127 = true := by decide +kernel
theorem fx_ck7 : ∀ i, i < 16 → fx_mokB (112 + i) = true := by
  intro i hi
  rcases (by omega : i = 0 ∨ i = 1 ∨ i = 2 ∨ i = 3 ∨ i = 4 ∨ i = 5 ∨ i = 6 ∨ i = 7 ∨ i = 8 ∨ i = 9 ∨ i = 10 ∨ i = 11 ∨ i = 12 ∨ i = 13 ∨ i = 14 ∨ i = 15) with rfl | rfl | rfl | rfl | rfl | rfl | rfl | rfl | rfl | rfl | rfl | rfl | rfl | rfl | rfl | rfl
  · exact fx_c112
  · exact fx_c113
  · exact fx_c114
  · exact fx_c115
  · exact fx_c116
  · exact fx_c117
  · exact fx_c118
  · exact fx_c119
  · exact fx_c120
  · exact fx_c121
  · exact fx_c122
  · exact fx_c123
  · exact fx_c124
  · exact fx_c125
  · exact fx_c126
  · exact fx_c127
