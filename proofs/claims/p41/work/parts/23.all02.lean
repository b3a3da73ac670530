set_option maxRecDepth 100000 in
theorem fx_c128 : fx_mokB 128 = true := by decide +kernel
set_option maxRecDepth 100000 in
theorem fx_c129 : fx_mokB 129 = true := by decide +kernel
set_option maxRecDepth 100000 in
theorem fx_c130 : fx_mokB 130 = true := by decide +kernel
set_option maxRecDepth 100000 in
theorem fx_c131 : fx_mokB 131 = true := by decide +kernel
set_option maxRecDepth 100000 in
theorem fx_c132 : fx_mokB 132 = true := by decide +kernel
set_option maxRecDepth 100000 in
theorem fx_c133 : fx_mokB 133 = true := by decide +kernel
set_option maxRecDepth 100000 in
theorem fx_c134 : fx_mokB 134 = true := by decide +kernel
set_option maxRecDepth 100000 in
theorem fx_c135 : fx_mokB 135 = true := by decide +kernel
set_option maxRecDepth 100000 in
theorem fx_c136 : fx_mokB 136 = true := by decide +kernel
set_option maxRecDepth 100000 in
theorem fx_c137 : fx_mokB 137 = true := by decide +kernel
set_option maxRecDepth 100000 in
theorem fx_c138 : fx_mokB 138 = true := by decide +kernel
set_option maxRecDepth 100000 in
theorem fx_c139 : fx_mokB 139 = true := by decide +kernel
set_option maxRecDepth 100000 in
theorem fx_c140 : fx_mokB 140 = true := by decide +kernel
set_option maxRecDepth 100000 in
theorem fx_c141 : fx_mokB 141 = true := by decide +kernel
set_option maxRecDepth 100000 in
theorem fx_c142 : fx_mokB 142 = true := by decide +kernel
set_option maxRecDepth 100000 in
theorem fx_c143 : fx_mokB 143 = true := by decide +kernel
theorem fx_ck8 : ∀ i, i < 16 → fx_mokB (128 + i) = true := by
  intro i hi
  rcases (by omega : i = 0 ∨ i = 1 ∨ i = 2 ∨ i = 3 ∨ i = 4 ∨ i = 5 ∨ i = 6 ∨ i = 7 ∨ i = 8 ∨ i = 9 ∨ i = 10 ∨ i = 11 ∨ i = 12 ∨ i = 13 ∨ i = 14 ∨ i = 15) with rfl | rfl | rfl | rfl | rfl | rfl | rfl | rfl | rfl | rfl | rfl | rfl | rfl | rfl | rfl | rfl
  · exact fx_c128
  · exact fx_c129
  · exact fx_c130
  · exact fx_c131
  · exact fx_c132
  · exact fx_c133
  · exact fx_c134
  · exact fx_c135
  · exact fx_c136
  · exact fx_c137
  · exact fx_c138
  · exact fx_c139
  · exact fx_c140
  · exact fx_c141
  · exact fx_c142
  · exact fx_c143
set_option maxRecDepth 100000 in
theorem fx_c144 : fx_mokB 144 = true := by decide +kernel
set_option maxRecDepth 100000 in
theorem fx_c145 : fx_mokB 145 = true := by decide +kernel
set_option maxRecDepth 100000 in
theorem fx_c146 : fx_mokB 146 = true := by decide +kernel
set_option maxRecDepth 100000 in
theorem fx_c147 : fx_mokB 147 = true := by decide +kernel
set_option maxRecDepth 100000 in
theorem fx_c148 : fx_mokB 148 = true := by decide +kernel
set_option maxRecDepth 100000 in
theorem fx_c149 : fx_mokB 149 = true := by decide +kernel
set_option maxRecDepth 100000 in
theorem fx_c150 : fx_mokB 150 = true := by decide +kernel
set_option maxRecDepth 100000 in
theorem fx_c151 : fx_mokB 151 = true := by decide +kernel
set_option maxRecDepth 100000 in
theorem fx_c152 : fx_mokB 152 = true := by decide +kernel
set_option maxRecDepth 100000 in
theorem fx_c153 : fx_mokB 153 = true := by decide +kernel
set_option maxRecDepth 100000 in
theorem fx_c154 : fx_mokB 154 = true := by decide +kernel
set_option maxRecDepth 100000 in
theorem fx_c155 : fx_mokB 155 = true := by decide +kernel
set_option maxRecDepth 100000 in
theorem fx_c156 : fx_mokB 156 = true := by decide +kernel
set_option maxRecDepth 100000 in
theorem fx_c157 : fx_mokB 157 = true := by decide +kernel
set_option maxRecDepth 100000 in
theorem fx_c158 : fx_mokB 158 = true := by decide +kernel
set_option maxRecDepth 100000 in
theorem fx_c159 : fx_mokB 159 = true := by decide +kernel
theorem fx_ck9 : ∀ i, i < 16 → fx_mokB (144 + i) = true := by
  intro i hi
  rcases (by omega : i = 0 ∨ i = 1 ∨ i = 2 ∨ i = 3 ∨ i = 4 ∨ i = 5 ∨ i = 6 ∨ i = 7 ∨ i = 8 ∨ i = 9 ∨ i = 10 ∨ i = 11 ∨ i = 12 ∨ i = 13 ∨ i = 14 ∨ i = 15) with rfl | rfl | rfl | rfl | rfl | rfl | rfl | rfl | rfl | rfl | rfl | rfl | rfl | rfl | rfl | rfl
  · exact fx_c144
  · exact fx_c145
  · exact fx_c146
  · exact fx_c147
  · exact fx_c148
  · exact fx_c149
  · exact fx_c150
  · exact fx_c151
  · exact fx_c152
  · exact fx_c153
  · exact fx_c154
  · exact fx_c155
  · exact fx_c156
  · exact fx_c157
  · exact fx_c158
  · exact fx_c159
set_option maxRecDepth 100000 in
theorem fx_c160 : fx_mokB 160 = true := by decide +kernel
set_option maxRecDepth 100000 in
theorem fx_c161 : fx_mokB 161 = true := by decide +kernel
set_option maxRecDepth 100000 in
theorem fx_c162 : fx_mokB 162 = true := by decide +kernel
set_option maxRecDepth 100000 in
theorem fx_c163 : fx_mokB 163 = true := by decide +kernel
set_option maxRecDepth 100000 in
theorem fx_c164 : fx_mokB 164 = true := by decide +kernel
set_option maxRecDepth 100000 in
theorem fx_c165 : fx_mokB 165 = true := by decide +kernel
set_option maxRecDepth 100000 in
theorem fx_c166 : fx_mokB 166 = true := by decide +kernel
set_option maxRecDepth 100000 in
theorem fx_c167 : fx_mokB 167 = true := by decide +kernel
set_option maxRecDepth 100000 in
theorem fx_c168 : fx_mokB 168 = true := by decide +kernel
set_option maxRecDepth 100000 in
theorem fx_c169 : fx_mokB 169 = true := by decide +kernel
set_option maxRecDepth 100000 in
theorem fx_c170 : fx_mokB 170 = true := by decide +kernel
set_option maxRecDepth 100000 in
theorem fx_c171 : fx_mokB 171 = true := by decide +kernel
set_option maxRecDepth 100000 in
theorem fx_c172 : fx_mokB 172 = true := by decide +kernel
set_option maxRecDepth 100000 in
theorem fx_c173 : fx_mokB 173 = true := by decide +kernel
set_option maxRecDepth 100000 in
theorem fx_c174 : fx_mokB 174 = true := by decide +kernel
set_option maxRecDepth 100000 in
theorem fx_c175 : fx_mokB 175 = true := by decide +kernel
theorem fx_ck10 : ∀ i, i < 16 → fx_mokB (160 + i) = true := by
  intro i hi
  rcases (by omega : i = 0 ∨ i = 1 ∨ i = 2 ∨ i = 3 ∨ i = 4 ∨ i = 5 ∨ i = 6 ∨ i = 7 ∨ i = 8 ∨ i = 9 ∨ i = 10 ∨ i = 11 ∨ i = 12 ∨ i = 13 ∨ i = 14 ∨ i = 15) with rfl | rfl | rfl | rfl | rfl | rfl | rfl | rfl | rfl | rfl | rfl | rfl | rfl | rfl | rfl | rfl
  · exact fx_c160
  · exact fx_c161
  · exact fx_c162
  · exact fx_c163
  · exact fx_c164
  · exact fx_c165
  · exact fx_c166
  · exact fx_c167
  · exact fx_c168
  · exact fx_c169
  · exact fx_c170
  · exact fx_c171
  · exact fx_c172
  · exact fx_c173
  · exact fx_c174
  · exact fx_c175
set_option maxRecDepth 100000 in
theorem fx_c176 : fx_mokB 176 = true := by decide +kernel
set_option maxRecDepth 100000 in
theorem fx_c177 : fx_mokB 177 = true := by decide +kernel
set_option maxRecDepth 100000 in
theorem fx_c178 : fx_mokB 178 = true := by decide +kernel
set_option maxRecDepth 100000 in
theorem fx_c179 : fx_mokB 179 = true := by decide +kernel
set_option maxRecDepth 100000 in
theorem fx_c180 : fx_mokB 180 = true := by decide +kernel
set_option maxRecDepth 100000 in
theorem fx_c181 : fx_mokB 181 = true := by decide +kernel
set_option maxRecDepth 100000 in
theorem fx_c182 : fx_mokB 182 = true := by decide +kernel
set_option maxRecDepth 100000 in
theorem fx_c183 : fx_mokB 183 = true := by decide +kernel
set_option maxRecDepth 100000 in
theorem fx_c184 : fx_mokB 184 = true := by decide +kernel
set_option maxRecDepth 100000 in
theorem fx_c185 : fx_mokB 185 = true := by decide +kernel
set_option maxRecDepth 100000 in
theorem fx_c186 : fx_mokB 186 = true := by decide +kernel
set_option maxRecDepth 100000 in
theorem fx_c187 : fx_mokB 187 = true := by decide +kernel
set_option maxRecDepth 100000 in
theorem fx_c188 : fx_mokB 188 = true := by decide +kernel
set_option maxRecDepth 100000 in
theorem fx_c189 : fx_mokB 189 = true := by decide +kernel
set_option maxRecDepth 100000 in
theorem fx_c190 : fx_mokB 190 = true := by decide +kernel
set_option maxRecDepth 100000 in
theorem fx_c191 : fx_mokB 191 = true := by decide +kernel
theorem fx_ck11 : ∀ i, i < 16 → fx_mokB (176 + i) = true := by
  intro i hi
  rcases (by omega : i = 0 ∨ i = 1 ∨ i = 2 ∨ i = 3 ∨ i = 4 ∨ i = 5 ∨ i = 6 ∨ i = 7 ∨ i = 8 ∨ i = 9 ∨ i = 10 ∨ i = 11 ∨ i = 12 ∨ i = 13 ∨ i = 14 ∨ i = 15) with rfl | rfl | rfl | rfl | rfl | rfl | rfl | rfl | rfl | rfl | rfl | rfl | rfl | rfl | rfl | rfl
  · exact fx_c176
  · exact fx_c177
  · exact fx_c178
  · exact fx_c179
  · exact fx_c180
  · exact fx_c181
  · exact fx_c182
  · exact fx_c183
  · exact fx_c184
  · exact fx_c185
  · exact fx_c186
  · exact fx_c187
  · exact fx_c188
  · exact fx_c189
  · exact fx_c190
  · exact fx_c191
