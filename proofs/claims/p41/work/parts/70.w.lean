theorem sl_mem {x : fx_I} {l : List fx_I} (n : Nat) (h : x ∈ l) : x ∈ l.take n ∨ x ∈ l.drop n := by
  rw [← List.take_append_drop n l] at h
  exact List.mem_append.mp h
def fw_d0 : List fx_I := fw_law
def fw_d1 : List fx_I := fw_d0.drop 60
def fw_d2 : List fx_I := fw_d1.drop 60
def fw_d3 : List fx_I := fw_d2.drop 60
def fw_d4 : List fx_I := fw_d3.drop 60
def fw_d5 : List fx_I := fw_d4.drop 60
def fw_d6 : List fx_I := fw_d5.drop 60
def fw_d7 : List fx_I := fw_d6.drop 60
def fw_d8 : List fx_I := fw_d7.drop 60
def fw_d9 : List fx_I := fw_d8.drop 60
def fw_d10 : List fx_I := fw_d9.drop 60
def fw_d11 : List fx_I := fw_d10.drop 60
def fw_d12 : List fx_I := fw_d11.drop 60
def fw_d13 : List fx_I := fw_d12.drop 60
def fw_d14 : List fx_I := fw_d13.drop 60
def fw_d15 : List fx_I := fw_d14.drop 60
set_option maxRecDepth 100000 in
theorem fx_lw0 : fx_codB 17 false (some .boolean) 4 code (fw_d0.take 60) = true := by decide +kernel
set_option maxRecDepth 100000 in
theorem fx_lw1 : fx_codB 17 false (some .boolean) 4 code (fw_d1.take 60) = true := by decide +kernel
set_option maxRecDepth 100000 in
theorem fx_lw2 : fx_codB 17 false (some .boolean) 4 code (fw_d2.take 60) = true := by decide +kernel
set_option maxRecDepth 100000 in
theorem fx_lw3 : fx_codB 17 false (some .boolean) 4 code (fw_d3.take 60) = true := by decide +kernel
set_option maxRecDepth 100000 in
theorem fx_lw4 : fx_codB 17 false (some .boolean) 4 code (fw_d4.take 60) = true := by decide +kernel
set_option maxRecDepth 100000 in
theorem fx_lw5 : fx_codB 17 false (some .boolean) 4 code (fw_d5.take 60) = true := by decide +kernel
set_option maxRecDepth 100000 in
theorem fx_lw6 : fx_codB 17 false (some .boolean) 4 code (fw_d6.take 60) = true := by decide +kernel
set_option maxRecDepth 100000 in
theorem fx_lw7 : fx_codB 17 false (some .boolean) 4 code (fw_d7.take 60) = true := by decide +kernel
set_option maxRecDepth 100000 in
theorem fx_lw8 : fx_codB 17 false (some .boolean) 4 code (fw_d8.take 60) = true := by decide +kernel
set_option maxRecDepth 100000 in
theorem fx_lw9 : fx_codB 17 false (some .boolean) 4 code (fw_d9.take 60) = true := by decide +kernel
set_option maxRecDepth 100000 in
theorem fx_lw10 : fx_codB 17 false (some .boolean) 4 code (fw_d10.take 60) = true := by decide +kernel
set_option maxRecDepth 100000 in
theorem fx_lw11 : fx_codB 17 false (some .boolean) 4 code (fw_d11.take 60) = true := by decide +kernel
set_option maxRecDepth 100000 in
theorem fx_lw12 : fx_codB 17 false (some .boolean) 4 code (fw_d12.take 60) = true := by decide +kernel
set_option maxRecDepth 100000 in
theorem fx_lw13 : fx_codB 17 false (some .boolean) 4 code (fw_d13.take 60) = true := by decide +kernel
set_option maxRecDepth 100000 in
theorem fx_lw14 : fx_codB 17 false (some .boolean) 4 code (fw_d14.take 60) = true := by decide +kernel
set_option maxRecDepth 100000 in
theorem fx_lw15 : fx_codB 17 false (some .boolean) 4 code fw_d15 = true := by decide +kernel
theorem fx_law_hw : ∀ pc kd a b' d, (pc, kd, a, b', d) ∈ fw_law → decode code pc = .ok (fx_ins pc kd a b' d) ∧ fx_an fx_mst fx_mt (fx_cn 17) false (some .boolean) 4 kd a b' d := by
  intro pc kd a b' d h
  have h0 : (pc, kd, a, b', d) ∈ fw_d0 := h
  rcases sl_mem 60 h0 with g | h1
  · exact (fx_codB_ok fx_lw0 pc kd a b' d g).2
  have h1 : (pc, kd, a, b', d) ∈ fw_d1 := h1
  rcases sl_mem 60 h1 with g | h2
  · exact (fx_codB_ok fx_lw1 pc kd a b' d g).2
  have h2 : (pc, kd, a, b', d) ∈ fw_d2 := h2
  rcases sl_mem 60 h2 with g | h3
  · exact (fx_codB_ok fx_lw2 pc kd a b' d g).2
  have h3 : (pc, kd, a, b', d) ∈ fw_d3 := h3
  rcases sl_mem 60 h3 with g | h4
  · exact (fx_codB_ok fx_lw3 pc kd a b' d g).2
  have h4 : (pc, kd, a, b', d) ∈ fw_d4 := h4
  rcases sl_mem 60 h4 with g | h5
  · exact (fx_codB_ok fx_lw4 pc kd a b' d g).2
  have h5 : (pc, kd, a, b', d) ∈ fw_d5 := h5
  rcases sl_mem 60 h5 with g | h6
  · exact (fx_codB_ok fx_lw5 pc kd a b' d g).2
  have h6 : (pc, kd, a, b', d) ∈ fw_d6 := h6
  rcases sl_mem 60 h6 with g | h7
  · exact (fx_codB_ok fx_lw6 pc kd a b' d g).2
  have h7 : (pc, kd, a, b', d) ∈ fw_d7 := h7
  rcases sl_mem 60 h7 with g | h8
  · exact (fx_codB_ok fx_lw7 pc kd a b' d g).2
  have h8 : (pc, kd, a, b', d) ∈ fw_d8 := h8
  rcases sl_mem 60 h8 with g | h9
  · exact (fx_codB_ok fx_lw8 pc kd a b' d g).2
  have h9 : (pc, kd, a, b', d) ∈ fw_d9 := h9
  rcases sl_mem 60 h9 with g | h10
  · exact (fx_codB_ok fx_lw9 pc kd a b' d g).2
  have h10 : (pc, kd, a, b', d) ∈ fw_d10 := h10
  rcases sl_mem 60 h10 with g | h11
  · exact (fx_codB_ok fx_lw10 pc kd a b' d g).2
  have h11 : (pc, kd, a, b', d) ∈ fw_d11 := h11
  rcases sl_mem 60 h11 with g | h12
  · exact (fx_codB_ok fx_lw11 pc kd a b' d g).2
  have h12 : (pc, kd, a, b', d) ∈ fw_d12 := h12
  rcases sl_mem 60 h12 with g | h13
  · exact (fx_codB_ok fx_lw12 pc kd a b' d g).2
  have h13 : (pc, kd, a, b', d) ∈ fw_d13 := h13
  rcases sl_mem 60 h13 with g | h14
  · exact (fx_codB_ok fx_lw13 pc kd a b' d g).2
  have h14 : (pc, kd, a, b', d) ∈ fw_d14 := h14
  rcases sl_mem 60 h14 with g | h15
  · exact (fx_codB_ok fx_lw14 pc kd a b' d g).2
  have h15 : (pc, kd, a, b', d) ∈ fw_d15 := h15
  exact (fx_codB_ok fx_lw15 pc kd a b' d h15).2
