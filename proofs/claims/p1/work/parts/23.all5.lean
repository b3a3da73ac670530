set_option maxRecDepth 100000 in
theorem fx_c160 : fx_mokB 160 = true := by decide +kernel
set_option maxRecDepth 100000 in
theorem fx_c161 : fx_mokB 161 = true := by decide +kernel
set_option maxRecDepth 100000 in
theorem fx_c162 : fx_mokB 162 = true := by decide +kernel
set_option maxRecDepth 100000 in
theorem fx_c163 : fx_mokB 163 = true := by decide +kernel
set_option maxRecDepth 100000 in
theorem fx_c164 : fx_mokB 164 = true := by decide +kernel
set_option maxRecDepth 100000 in
theorem fx_c165 : fx_mokB 165 = true := by decide +kernel
set_option maxRecDepth 100000 in
theorem fx_c166 : fx_mokB 166 = true := by decide +kernel
set_option maxRecDepth 100000 in
theorem fx_c167 : fx_mokB 167 = true := by decide +kernel
set_option maxRecDepth 100000 in
theorem fx_c168 : fx_mokB 168 = true := by decide +kernel
set_option maxRecDepth 100000 in
theorem fx_c169 : fx_mokB 169 = true := by decide +kernel
set_option maxRecDepth 100000 in
theorem fx_c170 : fx_mokB 170 = true := by decide +kernel
set_option maxRecDepth 100000 in
theorem fx_c171 : fx_mokB 171 = true := by decide +kernel
set_option maxRecDepth 100000 in
theorem fx_c172 : fx_mokB 172 = true := by decide +kernel
set_option maxRecDepth 100000 in
theorem fx_c173 : fx_mokB 173 = true := by decide +kernel
set_option maxRecDepth 100000 in
theorem fx_c174 : fx_mokB 174 = true := by decide +kernel
set_option maxRecDepth 100000 in
theorem fx_c175 : fx_mokB 175 = true := by decide +kernel
set_option maxRecDepth 100000 in
theorem fx_c176 : fx_mokB 176 = true := by decide +kernel
set_option maxRecDepth 100000 in
theorem fx_c177 : fx_mokB 177 = true := by decide +kernel
set_option maxRecDepth 100000 in
theorem fx_c178 : fx_mokB 178 = true := by decide +kernel
set_option maxRecDepth 100000 in
theorem fx_c179 : fx_mokB 179 = true := by decide +kernel
set_option maxRecDepth 100000 in
theorem fx_c180 : fx_mokB 180 = true := by decide +kernel
set_option maxRecDepth 100000 in
theorem fx_c181 : fx_mokB 181 = true := by decide +kernel
set_option maxRecDepth 100000 in
theorem fx_c182 : fx_mokB 182 = true := by decide +kernel
set_option maxRecDepth 100000 in
theorem fx_c183 : fx_mokB 183 = true := by decide +kernel
set_option maxRecDepth 100000 in
theorem fx_c184 : fx_mokB 184 = true := by decide +kernel
set_option maxRecDepth 100000 in
theorem fx_c185 : fx_mokB 185 = true := by decide +kernel
set_option maxRecDepth 100000 in
theorem fx_c186 : fx_mokB 186 = true := by decide +kernel
set_option maxRecDepth 100000 in
theorem fx_c187 : fx_mokB 187 = true := by decide +kernel
set_option maxRecDepth 100000 in
theorem fx_c188 : fx_mokB 188 = true := by decide +kernel
set_option maxRecDepth 100000 in
theorem fx_c189 : fx_mokB 189 = true := by decide +kernel
set_option maxRecDepth 100000 in
theorem fx_c190 : fx_mokB 190 = true := by decide +kernel
set_option maxRecDepth 100000 in
theorem fx_c191 : fx_mokB 191 = true := by decide +kernel
set_option maxRecDepth 100000 in
theorem fx_c192 : fx_mokB 192 = true := by decide +kernel
set_option maxRecDepth 100000 in
theorem fx_c193 : fx_mokB 193 = true := by decide +kernel
set_option maxRecDepth 100000 in
theorem fx_c194 : fx_mokB 194 = true := by decide +kernel
set_option maxRecDepth 100000 in
theorem fx_c195 : fx_mokB 195 = true := by decide +kernel
set_option maxRecDepth 100000 in
theorem fx_c196 : fx_mokB 196 = true := by decide +kernel
set_option maxRecDepth 100000 in
theorem fx_c197 : fx_mokB 197 = true := by decide +kernel
set_option maxRecDepth 100000 in
theorem fx_c198 : fx_mokB 198 = true := by decide +kernel
set_option maxRecDepth 100000 in
theorem fx_c199 : fx_mokB 199 = true := by decide +kernel
set_option maxRecDepth 100000 in
theorem fx_c200 : fx_mokB 200 = true := by decide +kernel
set_option maxRecDepth 100000 in
theorem fx_c201 : fx_mokB 201 = true := by decide +kernel
set_option maxRecDepth 100000 in
theorem fx_c202 : fx_mokB 202 = true := by decide +kernel
set_option maxRecDepth 100000 in
theorem fx_c203 : fx_mokB 203 = true := by decide +kernel
set_option maxRecDepth 100000 in
theorem fx_c204 : fx_mokB 204 = true := by decide +kernel
set_option maxRecDepth 100000 in
theorem fx_c205 : fx_mokB 205 = true := by decide +kernel
set_option maxRecDepth 100000 in
theorem fx_c206 : fx_mokB 206 = true := by decide +kernel
set_option maxRecDepth 100000 in
theorem fx_c207 : fx_mokB 207 = true := by decide +kernel
theorem fx_ck10 : ∀ c, c < 16 → fx_mokB (160 + c) = true := by
  intro c hc
  rcases (by omega : c = 0 ∨ c = 1 ∨ c = 2 ∨ c = 3 ∨ c = 4 ∨ c = 5 ∨ c = 6 ∨ c = 7 ∨ c = 8 ∨ c = 9 ∨ c = 10 ∨ c = 11 ∨ c = 12 ∨ c = 13 ∨ c = 14 ∨ c = 15) with rfl | rfl | rfl | rfl | rfl | rfl | rfl | rfl | rfl | rfl | rfl | rfl | rfl | rfl | rfl | rfl
  · exact fx_c160
  · exact fx_c161
  · exact fx_c162
  · exact fx_c163
  · exact fx_c164
  · exact fx_c165
  · exact fx_c166
  · exact fx_c167
  · exact fx_c168
  · exact fx_c169
  · exact fx_c170
  · exact fx_c171
  · exact fx_c172
  · exact fx_c173
  · exact fx_c174
  · exact fx_c175
theorem fx_ck11 : ∀ c, c < 16 → fx_mokB (176 + c) = true := by
  intro c hc
  rcases (by omega : c = 0 ∨ c = 1 ∨ c = 2 ∨ c = 3 ∨ c = 4 ∨ c = 5 ∨ c = 6 ∨ c = 7 ∨ c = 8 ∨ c = 9 ∨ c = 10 ∨ c = 11 ∨ c = 12 ∨ c = 13 ∨ c = 14 ∨ c = 15) with rfl | rfl | rfl | rfl | rfl | rfl | rfl | rfl | rfl | rfl | rfl | rfl | rfl | rfl | rfl | rfl
  · exact fx_c176
  · exact fx_c177
  · exact fx_c178
  · exact fx_c179
  · exact fx_c180
  · exact fx_c181
  · exact fx_c182
  · exact fx_c183
  · exact fx_c184
  · exact fx_c185
  · exact fx_c186
  · exact fx_c187
  · exact fx_c188
  · exact fx_c189
  · exact fx_c190
  · exact fx_c191
theorem fx_ck12 : ∀ c, c < 16 → fx_mokB (192 + c) = true := by
  intro c hc
  rcases (by omega : c = 0 ∨ c = 1 ∨ c = 2 ∨ c = 3 ∨ c = 4 ∨ c = 5 ∨ c = 6 ∨ c = 7 ∨ c = 8 ∨ c = 9 ∨ c = 10 ∨ c = 11 ∨ c = 12 ∨ c = 13 ∨ c = 14 ∨ c = 15) with rfl | rfl | rfl | rfl | rfl | rfl | rfl | rfl | rfl | rfl | rfl | rfl | rfl | rfl | rfl | rfl
  · exact fx_c192
  · exact fx_c193
  · exact fx_c194
  · exact fx_c195
  · exact fx_c196
  · exact fx_c197
  · exact fx_c198
  · exact fx_c199
  · exact fx_c200
  · exact fx_c201
  · exact fx_c202
  · exact fx_c203
  · exact fx_c204
  · exact fx_c205
  · exact fx_c206
  · exact fx_c207
