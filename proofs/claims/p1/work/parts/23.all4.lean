set_option maxRecDepth 100000 in
theorem fx_c112 : fx_mokB 112 = true := by decide +kernel
set_option maxRecDepth 100000 in
theorem fx_c113 : fx_mokB 113 = true := by decide +kernel
set_option maxRecDepth 100000 in
theorem fx_c114 : fx_mokB 114 = true := by decide +kernel
set_option maxRecDepth 100000 in
theorem fx_c115 : fx_mokB 115 = true := by decide +kernel
set_option maxRecDepth 100000 in
theorem fx_c116 : fx_mokB 116 = true := by decide +kernel
set_option maxRecDepth 100000 in
theorem fx_c117 : fx_mokB 117 = true := by decide +kernel
set_option maxRecDepth 100000 in
theorem fx_c118 : fx_mokB 118 = true := by decide +kernel
set_option maxRecDepth 100000 in
theorem fx_c119 : fx_mokB 119 = true := by decide +kernel
set_option maxRecDepth 100000 in
theorem fx_c120 : fx_mokB 120 = true := by decide +kernel
set_option maxRecDepth 100000 in
theorem fx_c121 : fx_mokB 121 = true := by decide +kernel
set_option maxRecDepth 100000 in
theorem fx_c122 : fx_mokB 122 = true := by decide +kernel
set_option maxRecDepth 100000 in
theorem fx_c123 : fx_mokB 123 = true := by decide +kernel
set_option maxRecDepth 100000 in
theorem fx_c124 : fx_mokB 124 = true := by decide +kernel
set_option maxRecDepth 100000 in
theorem fx_c125 : fx_mokB 125 = true := by decide +kernel
set_option maxRecDepth 100000 in
theorem fx_c126 : fx_mokB 126 = true := by decide +kernel
set_option maxRecDepth 100000 in
theorem fx_c127 : fx_mokB 127 = true := by decide +kernel
set_option maxRecDepth 100000 in
theorem fx_c128 : fx_mokB 128 = true := by decide +kernel
set_option maxRecDepth 100000 in
theorem fx_c129 : fx_mokB 129 = true := by decide +kernel
set_option maxRecDepth 100000 in
theorem fx_c130 : fx_mokB 130 = true := by decide +kernel
set_option maxRecDepth 100000 in
theorem fx_c131 : fx_mokB 131 = true := by decide +kernel
set_option maxRecDepth 100000 in
theorem fx_c132 : fx_mokB 132 = true := by decide +kernel
set_option maxRecDepth 100000 in
theorem fx_c133 : fx_mokB 133 = true := by decide +kernel
set_option maxRecDepth 100000 in
theorem fx_c134 : fx_mokB 134 = true := by decide +kernel
set_option maxRecDepth 100000 in
theorem fx_c135 : fx_mokB 135 = true := by decide +kernel
set_option maxRecDepth 100000 in
theorem fx_c136 : fx_mokB 136 = true := by decide +kernel
set_option maxRecDepth 100000 in
theorem fx_c137 : fx_mokB 137 = true := by decide +kernel
set_option maxRecDepth 100000 in
theorem fx_c138 : fx_mokB 138 = true := by decide +kernel
set_option maxRecDepth 100000 in
theorem fx_c139 : fx_mokB 139 = true := by decide +kernel
set_option maxRecDepth 100000 in
theorem fx_c140 : fx_mokB 140 = true := by decide +kernel
set_option maxRecDepth 100000 in
theorem fx_c141 : fx_mokB 141 = true := by decide +kernel
set_option maxRecDepth 100000 in
theorem fx_c142 : fx_mokB 142 = true := by decide +kernel
set_option maxRecDepth 100000 in
theorem fx_c143 : fx_mokB 143 = true := by decide +kernel
set_option maxRecDepth 100000 in
theorem fx_c144 : fx_mokB 144 = true := by decide +kernel
set_option maxRecDepth 100000 in
theorem fx_c145 : fx_mokB 145 = true := by decide +kernel
set_option maxRecDepth 100000 in
theorem fx_c146 : fx_mokB 146 = true := by decide +kernel
set_option maxRecDepth 100000 in
theorem fx_c147 : fx_mokB 147 = true := by decide +kernel
set_option maxRecDepth 100000 in
theorem fx_c148 : fx_mokB 148 = true := by decide +kernel
set_option maxRecDepth 100000 in
theorem fx_c149 : fx_mokB 149 = true := by decide +kernel
set_option maxRecDepth 100000 in
theorem fx_c150 : fx_mokB 150 = true := by decide +kernel
set_option maxRecDepth 100000 in
theorem fx_c151 : fx_mokB 151 = true := by decide +kernel
set_option maxRecDepth 100000 in
theorem fx_c152 : fx_mokB 152 = true := by decide +kernel
set_option maxRecDepth 100000 in
theorem fx_c153 : fx_mokB 153 = true := by decide +kernel
set_option maxRecDepth 100000 in
theorem fx_c154 : fx_mokB 154 = true := by decide +kernel
set_option maxRecDepth 100000 in
theorem fx_c155 : fx_mokB 155 = true := by decide +kernel
set_option maxRecDepth 100000 in
theorem fx_c156 : fx_mokB 156 = true := by decide +kernel
set_option maxRecDepth 100000 in
theorem fx_c157 : fx_mokB 157 = true := by decide +kernel
set_option maxRecDepth 100000 in
theorem fx_c158 : fx_mokB 158 = true := by decide +kernel
set_option maxRecDepth 100000 in
theorem fx_c159 : fx_mokB 159 = true := by decide +kernel
theorem fx_ck7 : ∀ c, c < 16 → fx_mokB (112 + c) = true := by
  intro c hc
  rcases (by omega : c = 0 ∨ c = 1 ∨ c = 2 ∨ c = 3 ∨ c = 4 ∨ c = 5 ∨ c = 6 ∨ c = 7 ∨ c = 8 ∨ c = 9 ∨ c = 10 ∨ c = 11 ∨ c = 12 ∨ c = 13 ∨ c = 14 ∨ c = 15) with rfl | rfl | rfl | rfl | rfl | rfl | rfl | rfl | rfl | rfl | rfl | rfl | rfl | rfl | rfl | rfl
  · exact fx_c112
  · exact fx_c113
  · exact fx_c114
  · exact fx_c115
  · exact fx_c116
  · exact fx_c117
  · exact fx_c118
  · exact fx_c119
  · exact fx_c120
  · exact fx_c121
  · exact fx_c122
  · exact fx_c123
  · exact fx_c124
  · exact fx_c125
  · exact fx_c126
  · exact fx_c127
theorem fx_ck8 : ∀ c, c < 16 → fx_mokB (128 + c) = true := by
  intro c hc
  rcases (by omega : c = 0 ∨ c = 1 ∨ c = 2 ∨ c = 3 ∨ c = 4 ∨ c = 5 ∨ c = 6 ∨ c = 7 ∨ c = 8 ∨ c = 9 ∨ c = 10 ∨ c = 11 ∨ c = 12 ∨ c = 13 ∨ c = 14 ∨ c = 15) with rfl | rfl | rfl | rfl | rfl | rfl | rfl | rfl | rfl | rfl | rfl | rfl | rfl | rfl | rfl | rfl
  · exact fx_c128
  · exact fx_c129
  · exact fx_c130
  · exact fx_c131
  · exact fx_c132
  · exact fx_c133
  · exact fx_c134
  · exact fx_c135
  · exact fx_c136
  · exact fx_c137
  · exact fx_c138
  · exact fx_c139
  · exact fx_c140
  · exact fx_c141
  · exact fx_c142
  · exact fx_c143
theorem fx_ck9 : ∀ c, c < 16 → fx_mokB (144 + c) = true := by
  intro c hc
  rcases (by omega : c = 0 ∨ c = 1 ∨ c = 2 ∨ c = 3 ∨ c = 4 ∨ c = 5 ∨ c = 6 ∨ c = 7 ∨ c = 8 ∨ c = 9 ∨ c = 10 ∨ c = 11 ∨ c = 12 ∨ c = 13 ∨ c = 14 ∨ c = 15) with rfl | rfl | rfl | rfl | rfl | rfl | rfl | rfl | rfl | rfl | rfl | rfl | rfl | rfl | rfl | rfl
  · exact fx_c144
  · exact fx_c145
  · exact fx_c146
  · exact fx_c147
  · exact fx_c148
  · exact fx_c149
  · exact fx_c150
  · exact fx_c151
  · exact fx_c152
  · exact fx_c153
  · exact fx_c154
  · exact fx_c155
  · exact fx_c156
  · exact fx_c157
  · exact fx_c158
  · exact fx_c159
