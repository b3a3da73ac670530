set_option maxRecDepth 100000 in
theorem fx_c0 : fx_mokB 0 = true := by decide +kernel
set_option maxRecDepth 100000 in
theorem fx_c1 : fx_mokB 1 = true := by decide +kernel
set_option maxRecDepth 100000 in
theorem fx_c2 : fx_mokB 2 = true := by decide +kernel
set_option maxRecDepth 100000 in
theorem fx_c3 : fx_mokB 3 = true := by decide +kernel
set_option maxRecDepth 100000 in
theorem fx_c4 : fx_mokB 4 = true := by decide +kernel
set_option maxRecDepth 100000 in
theorem fx_c5 : fx_mokB 5 = true := by decide +kernel
set_option maxRecDepth 100000 in
theorem fx_c6 : fx_mokB 6 = true := by decide +kernel
set_option maxRecDepth 100000 in
theorem fx_c7 : fx_mokB 7 = true := by decide +kernel
set_option maxRecDepth 100000 in
theorem fx_c8 : fx_mokB 8 = true := by decide +kernel
set_option maxRecDepth 100000 in
theorem fx_c9 : fx_mokB 9 = true := by decide +kernel
set_option maxRecDepth 100000 in
theorem fx_c10 : fx_mokB 10 = true := by decide +kernel
set_option maxRecDepth 100000 in
theorem fx_c11 : fx_mokB 11 = true := by decide +kernel
set_option maxRecDepth 100000 in
theorem fx_c12 : fx_mokB 12 = true := by decide +kernel
set_option maxRecDepth 100000 in
theorem fx_c13 : fx_mokB 13 = true := by decide +kernel
set_option maxRecDepth 100000 in
theorem fx_c14 : fx_mokB 14 = true := by decide +kernel
set_option maxRecDepth 100000 in
theorem fx_c15 : fx_mokB 15 = true := by decide +kernel
theorem fx_ck0 : ∀ i, i < 16 → fx_mokB (0 + i) = true := by
  intro i hi
  rcases (by omega : i = 0 ∨ i = 1 ∨ i = 2 ∨ i = 3 ∨ i = 4 ∨ i = 5 ∨ i = 6 ∨ i = 7 ∨ i = 8 ∨ i = 9 ∨ i = 10 ∨ i = 11 ∨ i = 12 ∨ i = 13 ∨ i = 14 ∨ i = 15) with rfl | rfl | rfl | rfl | rfl | rfl | rfl | rfl | rfl | rfl | rfl | rfl | rfl | rfl | rfl | rfl
  · exact fx_c0
  · exact fx_c1
  · exact fx_c2
  · exact fx_c3
  · exact fx_c4
  · exact fx_c5
  · exact fx_c6
  · exact fx_c7
  · exact fx_c8
  · exact fx_c9
  · exact fx_c10
  · exact fx_c11
  · exact fx_c12
  · exact fx_c13
  · exact fx_c14
  · exact fx_c15
set_option maxRecDepth 100000 in
theorem fx_c16 : fx_mokB 16 = true := by decide +kernel
set_option maxRecDepth 100000 in
theorem fx_c17 : fx_mokB 17 = true := by decide +kernel
set_option maxRecDepth 100000 in
theorem fx_c18 : fx_mokB 18 = true := by decide +kernel
set_option maxRecDepth 100000 in
theorem fx_c19 : fx_mokB 19 = true := by decide +kernel
set_option maxRecDepth 100000 in
theorem fx_c20 : fx_mokB 20 = true := by decide +kernel
set_option maxRecDepth 100000 in
theorem fx_c21 : fx_mokB 21 = true := by decide +kernel
set_option maxRecDepth 100000 in
theorem fx_c22 : fx_mokB 22 = true := by decide +kernel
set_option maxRecDepth 100000 in
theorem fx_c23 : fx_mokB 23 = true := by decide +kernel
set_option maxRecDepth 100000 in
theorem fx_c24 : fx_mokB 24 = true := by decide +kernel
set_option maxRecDepth 100000 in
theorem fx_c25 : fx_mokB 25 = true := by decide +kernel
set_option maxRecDepth 100000 in
theorem fx_c26 : fx_mokB 26 = true := by decide +kernel
set_option maxRecDepth 100000 in
theorem fx_c27 : fx_mokB 27 = true := by decide +kernel
set_option maxRecDepth 100000 in
theorem fx_c28 : fx_mokB 28 = true := by decide +kernel
set_option maxRecDepth 100000 in
theorem fx_c29 : fx_mokB 29 = true := by decide +kernel
set_option maxRecDepth 100000 in
theorem fx_c30 : fx_mokB 30 = true := by decide +kernel
set_option maxRecDepth 100000 in
theorem fx_c31 : fx_mokB 31 = true := by decide +kernel
theorem fx_ck1 : ∀ i, i < 16 → fx_mokB (16 + i) = true := by
  intro i hi
  rcases (by omega : i = 0 ∨ i = 1 ∨ i = 2 ∨ i = 3 ∨ i = 4 ∨ i = 5 ∨ i = 6 ∨ i = 7 ∨ i = 8 ∨ i = 9 ∨ i = 10 ∨ i = 11 ∨ i = 12 ∨ i = 13 ∨ i = 14 ∨ i = 15) with rfl | rfl | rfl | rfl | rfl | rfl | rfl | rfl | rfl | rfl | rfl | rfl | rfl | rfl | rfl | rfl
  · exact fx_c16
  · exact fx_c17
  · exact fx_c18
  · exact fx_c19
  · exact fx_c20
  · exact fx_c21
  · exact fx_c22
  · exact fx_c23
  · exact fx_c24
  · exact fx_c25
  · exact fx_c26
  · exact fx_c27
  · exact fx_c28
  · exact fx_c29
  · exact fx_c30
  · exact fx_c31
set_option maxRecDepth 100000 in
theorem fx_c32 : fx_mokB 32 = true := by decide +kernel
set_option maxRecDepth 100000 in
theorem fx_c33 : fx_mokB 33 = true := by decide +kernel
set_option maxRecDepth 100000 in
theorem fx_c34 : fx_mokB 34 = true := by decide +kernel
set_option maxRecDepth 100000 in
theorem fx_c35 : fx_mokB 35 = true := by decide +kernel
set_option maxRecDepth 100000 in
theorem fx_c36 : fx_mokB 36 = true := by decide +kernel
set_option maxRecDepth 100000 in
theorem fx_c37 : fx_mokB 37 = true := by decide +kernel
set_option maxRecDepth 100000 in
theorem fx_c38 : fx_mokB 38 = true := by decide +kernel
set_option maxRecDepth 100000 in
theorem fx_c39 : fx_mokB 39 = true := by decide +kernel
set_option maxRecDepth 100000 in
theorem fx_c40 : fx_mokB 40 = true := by decide +kernel
set_option maxRecDepth 100000 in
theorem fx_c41 : fx_mokB 41 = true := by decide +kernel
set_option maxRecDepth 100000 in
theorem fx_c42 : fx_mokB 42 = true := by decide +kernel
set_option maxRecDepth 100000 in
theorem fx_c43 : fx_mokB 43 = true := by decide +kernel
set_option maxRecDepth 100000 in
theorem fx_c44 : fx_mokB 44 = true := by decide +kernel
set_option maxRecDepth 100000 in
theorem fx_c45 : fx_mokB 45 = true := by decide +kernel
set_option maxRecDepth 100000 in
theorem fx_c46 : fx_mokB 46 = true := by decide +kernel
set_option maxRecDepth 100000 in
theorem fx_c47 : fx_mokB 47 = true := by decide +kernel
theorem fx_ck2 : ∀ i, i < 16 → fx_mokB (32 + i) = true := by
  intro i hi
  rcases (by omega : i = 0 ∨ i = 1 ∨ i = 2 ∨ i = 3 ∨ i = 4 ∨ i = 5 ∨ i = 6 ∨ i = 7 ∨ i = 8 ∨ i = 9 ∨ i = 10 ∨ i = 11 ∨ i = 12 ∨ i = 13 ∨ i = 14 ∨ i = 15) with rfl | rfl | rfl | rfl | rfl | rfl | rfl | rfl | rfl | rfl | rfl | rfl | rfl | rfl | rfl | rfl
  · exact fx_c32
  · exact fx_c33
  · exact fx_c34
  · exact fx_c35
  · exact fx_c36
  · exact fx_c37
  · exact fx_c38
  · exact fx_c39
  · exact fx_c40
  · exact fx_c41
  · exact fx_c42
  · exact fx_c43
  · exact fx_c44
  · exact fx_c45
  · exact fx_c46
  · exact fx_c47
set_option maxRecDepth 100000 in
theorem fx_c48 : fx_mokB 48 = true := by decide +kernel
set_option maxRecDepth 100000 in
theorem fx_c49 : fx_mokB 49 = true := by decide +kernel
set_option maxRecDepth 100000 in
theorem fx_c50 : fx_mokB 50 = true := by decide +kernel
set_option maxRecDepth 100000 in
theorem fx_c51 : fx_mokB 51 = true := by decide +kernel
set_option maxRecDepth 100000 in
theorem fx_c52 : fx_mokB 52 = true := by decide +kernel
set_option maxRecDepth 100000 in
theorem fx_c53 : fx_mokB 53 = true := by decide +kernel
set_option maxRecDepth 100000 in
theorem fx_c54 : fx_mokB 54 = true := by decide +kernel
set_option maxRecDepth 100000 in
theorem fx_c55 : fx_mokB 55 = true := by decide +kernel
set_option maxRecDepth 100000 in
theorem fx_c56 : fx_mokB 56 = true := by decide +kernel
set_option maxRecDepth 100000 in
theorem fx_c57 : fx_mokB 57 = true := by decide +kernel
set_option maxRecDepth 100000 in
theorem fx_c58 : fx_mokB 58 = true := by decide +kernel
set_option maxRecDepth 100000 in
theorem fx_c59 : fx_mokB 59 = true := by decide +kernel
set_option maxRecDepth 100000 in
theorem fx_c60 : fx_mokB 60 = true := by decide +kernel
set_option maxRecDepth 100000 in
theorem fx_c61 : fx_mokB 61 = true := by decide +kernel
set_option maxRecDepth 100000 in
theorem fx_c62 : fx_mokB 62 = true := by decide +kernel
set_option maxRecDepth 100000 in
theorem fx_c63 : fx_mokB 63 = true := by decide +kernel
theorem fx_ck3 : ∀ i, i < 16 → fx_mokB (48 + i) = true := by
  intro i hi
  rcases (by omega : i = 0 ∨ i = 1 ∨ i = 2 ∨ i = 3 ∨ i = 4 ∨ i = 5 ∨ i = 6 ∨ i = 7 ∨ i = 8 ∨ i = 9 ∨ i = 10 ∨ i = 11 ∨ i = 12 ∨ i = 13 ∨ i = 14 ∨ i = 15) with rfl | rfl | rfl | rfl | rfl | rfl | rfl | rfl | rfl | rfl | rfl | rfl | rfl | rfl | rfl | rfl
  · exact fx_c48
  · exact fx_c49
  · exact fx_c50
  · exact fx_c51
  · exact fx_c52
  · exact fx_c53
  · exact fx_c54
  · exact fx_c55
  · exact fx_c56
  · exact fx_c57
  · exact fx_c58
  · exact fx_c59
  · exact fx_c60
  · exact fx_c61
  · exact fx_c62
  · exact fx_c63
