set_option maxRecDepth 100000 in
theorem fx_c192 : fx_mokB 192 = true := by decide +kernel
set_option maxRecDepth 100000 in
theorem fx_c193 : fx_mokB 193 = true := by decide +kernel
set_option maxRecDepth 100000 in
theorem fx_c194 : fx_mokB 194 = true := by decide +kernel
set_option maxRecDepth 100000 in
theorem fx_c195 : fx_mokB 195 = true := by decide +kernel
set_option maxRecDepth 100000 in
theorem fx_c196 : fx_mokB 196 = true := by decide +kernel
set_option maxRecDepth 100000 in
theorem fx_c197 : fx_mokB 197 = true := by decide +kernel
set_option maxRecDepth 100000 in
theorem fx_c198 : fx_mokB 198 = true := by decide +kernel
set_option maxRecDepth 100000 in
theorem fx_c199 : fx_mokB 199 = true := by decide +kernel
set_option maxRecDepth 100000 in
theorem fx_c200 : fx_mokB 200 = true := by decide +kernel
set_option maxRecDepth 100000 in
theorem fx_c201 : fx_mokB 201 = true := by decide +kernel
set_option maxRecDepth 100000 in
theorem fx_c202 : fx_mokB 202 = true := by decide +kernel
set_option maxRecDepth 100000 in
theorem fx_c203 : fx_mokB 203 = true := by decide +kernel
set_option maxRecDepth 100000 in
theorem fx_c204 : fx_mokB 204 = true := by decide +kernel
set_option maxRecDepth 100000 in
theorem fx_c205 : fx_mokB 205 = true := by decide +kernel
set_option maxRecDepth 100000 in
theorem fx_c206 : fx_mokB 206 = true := by decide +kernel
set_option maxRecDepth 100000 in
theorem fx_c207 : fx_mokB 207 = true := by decide +kernel
theorem fx_ck12 : ∀ i, i < 16 → fx_mokB (192 + i) = true := by
  intro i hi
  rcases (by omega : i = 0 ∨ i = 1 ∨ i = 2 ∨ i = 3 ∨ i = 4 ∨ i = 5 ∨ i = 6 ∨ i = 7 ∨ i = 8 ∨ i = 9 ∨ i = 10 ∨ i = 11 ∨ i = 12 ∨ i = 13 ∨ i = 14 ∨ i = 15) with rfl | rfl | rfl | rfl | rfl | rfl | rfl | rfl | rfl | rfl | rfl | rfl | rfl | rfl | rfl | rfl
  · exact fx_c192
  · exact fx_c193
  · exact fx_c194
  · exact fx_c195
  · exact fx_c196
  · exact fx_c197
  · exact fx_c198
  · exact fx_c199
  · exact fx_c200
  · exact fx_c201
  · exact fx_c202
  · exact fx_c203
  · exact fx_c204
  · exact fx_c205
  · exact fx_c206
  · exact fx_c207
set_option maxRecDepth 100000 in
theorem fx_c208 : fx_mokB 208 = true := by decide +kernel
set_option maxRecDepth 100000 in
theorem fx_c209 : fx_mokB 209 = true := by decide +kernel
set_option maxRecDepth 100000 in
theorem fx_c210 : fx_mokB 210 = true := by decide +kernel
set_option maxRecDepth 100000 in
theorem fx_c211 : fx_mokB 211 = true := by decide +kernel
set_option maxRecDepth 100000 in
theorem fx_c212 : fx_mokB 212 = true := by decide +kernel
set_option maxRecDepth 100000 in
theorem fx_c213 : fx_mokB 213 = true := by decide +kernel
set_option maxRecDepth 100000 in
theorem fx_c214 : fx_mokB 214 = true := by decide +kernel
set_option maxRecDepth 100000 in
theorem fx_c215 : fx_mokB 215 = true := by decide +kernel
set_option maxRecDepth 100000 in
theorem fx_c216 : fx_mokB 216 = true := by decide +kernel
set_option maxRecDepth 100000 in
theorem fx_c217 : fx_mokB 217 = true := by decide +kernel
set_option maxRecDepth 100000 in
theorem fx_c218 : fx_mokB 218 = true := by decide +kernel
set_option maxRecDepth 100000 in
theorem fx_c219 : fx_mokB 219 = true := by decide +kernel
set_option maxRecDepth 100000 in
theorem fx_c220 : fx_mokB 220 = true := by decide +kernel
set_option maxRecDepth 100000 in
theorem fx_c221 : fx_mokB 221 = true := by decide +kernel
set_option maxRecDepth 100000 in
theorem fx_c222 : fx_mokB 222 = true := by decide +kernel
set_option maxRecDepth 100000 in
theorem fx_c223 : fx_mokB 223 = true := by decide +kernel
theorem fx_ck13 : ∀ i, i < 16 → fx_mokB (208 + i) = true := by
  intro i hi
  rcases (by omega : i = 0 ∨ i = 1 ∨ i = 2 ∨ i = 3 ∨ i = 4 ∨ i = 5 ∨ i = 6 ∨ i = 7 ∨ i = 8 ∨ i = 9 ∨ i = 10 ∨ i = 11 ∨ i = 12 ∨ i = 13 ∨ i = 14 ∨ i = 15) with rfl | rfl | rfl | rfl | rfl | rfl | rfl | rfl | rfl | rfl | rfl | rfl | rfl | rfl | rfl | rfl
  · exact fx_c208
  · exact fx_c209
  · exact fx_c210
  · exact fx_c211
  · exact fx_c212
  · exact fx_c213
  · exact fx_c214
  · exact fx_c215
  · exact fx_c216
  · exact fx_c217
  · exact fx_c218
  · exact fx_c219
  · exact fx_c220
  · exact fx_c221
  · exact fx_c222
  · exact fx_c223
set_option maxRecDepth 100000 in
theorem fx_c224 : fx_mokB 224 = true := by decide +kernel
set_option maxRecDepth 100000 in
theorem fx_c225 : fx_mokB 225 = true := by decide +kernel
set_option maxRecDepth 100000 in
theorem fx_c226 : fx_mokB 226 = true := by decide +kernel
set_option maxRecDepth 100000 in
theorem fx_c227 : fx_mokB 227 = true := by decide +kernel
set_option maxRecDepth 100000 in
theorem fx_c228 : fx_mokB 228 = true := by decide +kernel
set_option maxRecDepth 100000 in
theorem fx_c229 : fx_mokB 229 = true := by decide +kernel
set_option maxRecDepth 100000 in
theorem fx_c230 : fx_mokB 230 = true := by decide +kernel
set_option maxRecDepth 100000 in
theorem fx_c231 : fx_mokB 231 = true := by decide +kernel
set_option maxRecDepth 100000 in
theorem fx_c232 : fx_mokB 232 = true := by decide +kernel
set_option maxRecDepth 100000 in
theorem fx_c233 : fx_mokB 233 = true := by decide +kernel
set_option maxRecDepth 100000 in
theorem fx_c234 : fx_mokB 234 = true := by decide +kernel
set_option maxRecDepth 100000 in
theorem fx_c235 : fx_mokB 235 = true := by decide +kernel
set_option maxRecDepth 100000 in
theorem fx_c236 : fx_mokB 236 = true := by decide +kernel
set_option maxRecDepth 100000 in
theorem fx_c237 : fx_mokB 237 = true := by decide +kernel
set_option maxRecDepth 100000 in
theorem fx_c238 : fx_mokB 238 = true := by decide +kernel
set_option maxRecDepth 100000 in
theorem fx_c239 : fx_mokB 239 = true := by decide +kernel
theorem fx_ck14 : ∀ i, i < 16 → fx_mokB (224 + i) = true := by
  intro i hi
  rcases (by omega : i = 0 ∨ i = 1 ∨ i = 2 ∨ i = 3 ∨ i = 4 ∨ i = 5 ∨ i = 6 ∨ i = 7 ∨ i = 8 ∨ i = 9 ∨ i = 10 ∨ i = 11 ∨ i = 12 ∨ i = 13 ∨ i = 14 ∨ i = 15) with rfl | rfl | rfl | rfl | rfl | rfl | rfl | rfl | rfl | rfl | rfl | rfl | rfl | rfl | rfl | rfl
  · exact fx_c224
  · exact fx_c225
  · exact fx_c226
  · exact fx_c227
  · exact fx_c228
  · exact fx_c229
  · exact fx_c230
  · exact fx_c231
  · exact fx_c232
  · exact fx_c233
  · exact fx_c234
  · exact fx_c235
  · exact fx_c236
  · exact fx_c237
  · exact fx_c238
  · exact fx_c239
set_option maxRecDepth 100000 in
theorem fx_c240 : fx_mokB 240 = true := by decide +kernel
set_option maxRecDepth 100000 in
theorem fx_c241 : fx_mokB 241 = true := by decide +kernel
set_option maxRecDepth 100000 in
theorem fx_c242 : fx_mokB 242 = true := by decide +kernel
set_option maxRecDepth 100000 in
theorem fx_c243 : fx_mokB 243 = true := by decide +kernel
set_option maxRecDepth 100000 in
theorem fx_c244 : fx_mokB 244 = true := by decide +kernel
set_option maxRecDepth 100000 in
theorem fx_c245 : fx_mokB 245 = true := by decide +kernel
set_option maxRecDepth 100000 in
theorem fx_c246 : fx_mokB 246 = true := by decide +kernel
set_option maxRecDepth 100000 in
theorem fx_c247 : fx_mokB 247 = true := by decide +kernel
set_option maxRecDepth 100000 in
theorem fx_c248 : fx_mokB 248 = true := by decide +kernel
set_option maxRecDepth 100000 in
theorem fx_c249 : fx_mokB 249 = true := by decide +kernel
set_option maxRecDepth 100000 in
theorem fx_c250 : fx_mokB 250 = true := by decide +kernel
set_option maxRecDepth 100000 in
theorem fx_c251 : fx_mokB 251 = true := by decide +kernel
set_option maxRecDepth 100000 in
theorem fx_c252 : fx_mokB 252 = true := by decide +kernel
set_option maxRecDepth 100000 in
theorem fx_c253 : fx_mokB 253 = true := by decide +kernel
set_option maxRecDepth 100000 in
theorem fx_c254 : fx_mokB 254 = true := by decide +kernel
set_option maxRecDepth 100000 in
theorem fx_c255 : fx_mokB 255 = true := by decide +kernel
theorem fx_ck15 : ∀ i, i < 16 → fx_mokB (240 + i) = true := by
  intro i hi
  rcases (by omega : i = 0 ∨ i = 1 ∨ i = 2 ∨ i = 3 ∨ i = 4 ∨ i = 5 ∨ i = 6 ∨ i = 7 ∨ i = 8 ∨ i = 9 ∨ i = 10 ∨ i = 11 ∨ i = 12 ∨ i = 13 ∨ i = 14 ∨ i = 15) with rfl | rfl | rfl | rfl | rfl | rfl | rfl | rfl | rfl | rfl | rfl | rfl | rfl | rfl | rfl | rfl
  · exact fx_c240
  · exact fx_c241
  · exact fx_c242
  · exact fx_c243
  · exact fx_c244
  · exact fx_c245
  · exact fx_c246
  · exact fx_c247
  · exact fx_c248
  · exact fx_c249
  · exact fx_c250
  · exact fx_c251
  · exact fx_c252
  · exact fx_c253
  · exact fx_c254
  · exact fx_c255
