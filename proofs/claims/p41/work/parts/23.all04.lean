set_option maxRecDepth 100000 in
theorem fx_c256 : fx_mokB 256 = true := by decide +kernel
set_option maxRecDepth 100000 in
theorem fx_c257 : fx_mokB 257 = true := by decide +kernel
set_option maxRecDepth 100000 in
theorem fx_c258 : fx_mokB 258 = true := by decide +kernel
set_option maxRecDepth 100000 in
theorem fx_c259 : fx_mokB 259 = true := by decide +kernel
set_option maxRecDepth 100000 in
theorem fx_c260 : fx_mokB 260 = true := by decide +kernel
set_option maxRecDepth 100000 in
theorem fx_c261 : fx_mokB 261 = true := by decide +kernel
set_option maxRecDepth 100000 in
theorem fx_c262 : fx_mokB 262 = true := by decide +kernel
set_option maxRecDepth 100000 in
theorem fx_c263 : fx_mokB 263 = true := by decide +kernel
set_option maxRecDepth 100000 in
theorem fx_c264 : fx_mokB 264 = true := by decide +kernel
set_option maxRecDepth 100000 in
theorem fx_c265 : fx_mokB 265 = true := by decide +kernel
set_option maxRecDepth 100000 in
theorem fx_c266 : fx_mokB 266 = true := by decide +kernel
set_option maxRecDepth 100000 in
theorem fx_c267 : fx_mokB 267 = true := by decide +kernel
set_option maxRecDepth 100000 in
theorem fx_c268 : fx_mokB 268 = true := by decide +kernel
set_option maxRecDepth 100000 in
theorem fx_c269 : fx_mokB 269 = true := by decide +kernel
set_option maxRecDepth 100000 in
theorem fx_c270 : fx_mokB 270 = true := by decide +kernel
set_option maxRecDepth 100000 in
theorem fx_c271 : fx_mokB 271 = true := by decide +kernel
theorem fx_ck16 : ∀ i, i < 16 → fx_mokB (256 + i) = true := by
  intro i hi
  rcases (by omega : i = 0 ∨ i = 1 ∨ i = 2 ∨ i = 3 ∨ i = 4 ∨ i = 5 ∨ i = 6 ∨ i = 7 ∨ i = 8 ∨ i = 9 ∨ i = 10 ∨ i = 11 ∨ i = 12 ∨ i = 13 ∨ i = 14 ∨ i = 15) with rfl | rfl | rfl | rfl | rfl | rfl | rfl | rfl | rfl | rfl | rfl | rfl | rfl | rfl | rfl | rfl
  · exact fx_c256
  · exact fx_c257
  · exact fx_c258
  · exact fx_c259
  · exact fx_c260
  · exact fx_c261
  · exact fx_c262
  · exact fx_c263
  · exact fx_c264
  · exact fx_c265
  · exact fx_c266
  · exact fx_c267
  · exact fx_c268
  · exact fx_c269
  · exact fx_c270
  · exact fx_c271
set_option maxRecDepth 100000 in
theorem fx_c272 : fx_mokB 272 = true := by decide +kernel
set_option maxRecDepth 100000 in
theorem fx_c273 : fx_mokB 273 = true := by decide +kernel
set_option maxRecDepth 100000 in
theorem fx_c274 : fx_mokB 274 = true := by decide +kernel
set_option maxRecDepth 100000 in
theorem fx_c275 : fx_mokB 275 = true := by decide +kernel
set_option maxRecDepth 100000 in
theorem fx_c276 : fx_mokB 276 = true := by decide +kernel
set_option maxRecDepth 100000 in
theorem fx_c277 : fx_mokB 277 = true := by decide +kernel
set_option maxRecDepth 100000 in
theorem fx_c278 : fx_mokB 278 = true := by decide +kernel
set_option maxRecDepth 100000 in
theorem fx_c279 : fx_mokB 279 = true := by decide +kernel
set_option maxRecDepth 100000 in
theorem fx_c280 : fx_mokB 280 = true := by decide +kernel
set_option maxRecDepth 100000 in
theorem fx_c281 : fx_mokB 281 = true := by decide +kernel
set_option maxRecDepth 100000 in
theorem fx_c282 : fx_mokB 282 = true := by decide +kernel
set_option maxRecDepth 100000 in
theorem fx_c283 : fx_mokB 283 = true := by decide +kernel
set_option maxRecDepth 100000 in
theorem fx_c284 : fx_mokB 284 = true := by decide +kernel
set_option maxRecDepth 100000 in
theorem fx_c285 : fx_mokB 285 = true := by decide +kernel
set_option maxRecDepth 100000 in
theorem fx_c286 : fx_mokB 286 = true := by decide +kernel
set_option maxRecDepth 100000 in
theorem fx_c287 : fx_mokB 287 = true := by decide +kernel
theorem fx_ck17 : ∀ i, i < 16 → fx_mokB (272 + i) = true := by
  intro i hi
  rcases (by omega : i = 0 ∨ i = 1 ∨ i = 2 ∨ i = 3 ∨ i = 4 ∨ i = 5 ∨ i = 6 ∨ i = 7 ∨ i = 8 ∨ i = 9 ∨ i = 10 ∨ i = 11 ∨ i = 12 ∨ i = 13 ∨ i = 14 ∨ i = 15) with rfl | rfl | rfl | rfl | rfl | rfl | rfl | rfl | rfl | rfl | rfl | rfl | rfl | rfl | rfl | rfl
  · exact fx_c272
  · exact fx_c273
  · exact fx_c274
  · exact fx_c275
  · exact fx_c276
  · exact fx_c277
  · exact fx_c278
  · exact fx_c279
  · exact fx_c280
  · exact fx_c281
  · exact fx_c282
  · exact fx_c283
  · exact fx_c284
  · exact fx_c285
  · exact fx_c286
  · exact fx_c287
set_option maxRecDepth 100000 in
theorem fx_c288 : fx_mokB 288 = true := by decide +kernel
set_option maxRecDepth 100000 in
theorem fx_c289 : fx_mokB 289 = true := by decide +kernel
set_option maxRecDepth 100000 in
theorem fx_c290 : fx_mokB 290 = true := by decide +kernel
set_option maxRecDepth 100000 in
theorem fx_c291 : fx_mokB 291 = true := by decide +kernel
set_option maxRecDepth 100000 in
theorem fx_c292 : fx_mokB 292 = true := by decide +kernel
set_option maxRecDepth 100000 in
theorem fx_c293 : fx_mokB 293 = true := by decide +kernel
set_option maxRecDepth 100000 in
theorem fx_c294 : fx_mokB 294 = true := by decide +kernel
set_option maxRecDepth 100000 in
theorem fx_c295 : fx_mokB 295 = true := by decide +kernel
set_option maxRecDepth 100000 in
theorem fx_c296 : fx_mokB 296 = true := by decide +kernel
set_option maxRecDepth 100000 in
theorem fx_c297 : fx_mokB 297 = true := by decide +kernel
set_option maxRecDepth 100000 in
theorem fx_c298 : fx_mokB 298 = true := by decide +kernel
set_option maxRecDepth 100000 in
theorem fx_c299 : fx_mokB 299 = true := by decide +kernel
set_option maxRecDepth 100000 in
theorem fx_c300 : fx_mokB 300 = true := by decide +kernel
set_option maxRecDepth 100000 in
theorem fx_c301 : fx_mokB 301 = true := by decide +kernel
set_option maxRecDepth 100000 in
theorem fx_c302 : fx_mokB 302 = true := by decide +kernel
set_option maxRecDepth 100000 in
theorem fx_c303 : fx_mokB 303 = true := by decide +kernel
theorem fx_ck18 : ∀ i, i < 16 → fx_mokB (288 + i) = true := by
  intro i hi
  rcases (by omega : i = 0 ∨ i = 1 ∨ i = 2 ∨ i = 3 ∨ i = 4 ∨ i = 5 ∨ i = 6 ∨ i = 7 ∨ i = 8 ∨ i = 9 ∨ i = 10 ∨ i = 11 ∨ i = 12 ∨ i = 13 ∨ i = 14 ∨ i = 15) with rfl | rfl | rfl | rfl | rfl | rfl | rfl | rfl | rfl | rfl | rfl | rfl | rfl | rfl | rfl | rfl
  · exact fx_c288
  · exact fx_c289
  · exact fx_c290
  · exact fx_c291
  · exact fx_c292
  · exact fx_c293
  · exact fx_c294
  · exact fx_c295
  · exact fx_c296
  · exact fx_c297
  · exact fx_c298
  · exact fx_c299
  · exact fx_c300
  · exact fx_c301
  · exact fx_c302
  · exact fx_c303
