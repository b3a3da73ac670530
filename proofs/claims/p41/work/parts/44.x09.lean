def ii_x333 : ai_I := (([.inr (fr 0), .inl (0, 4294967295)], []), ((some (.inl (0, 4294967295)), []), (([135170, 200705, 200706], [51, 52]), 3)))
set_option maxRecDepth 100000 in
theorem ik_x333 : ai_inst (ai_T0, ai_cts [], ai_mem ai_inl, ii_x333.2.2.1, ([135170, 200705, 200706], [51, 52]), ai_hds []) 1000000 47 [] ii_x333 = true := by decide +kernel
theorem ic_x333 {l : Launch} {X : fx_X} {Y : fx_Y} {B : fx_B} (he : ai_env X B) : ai_con l X Y B ai_T0 ai_N 47 ii_x333 := ai_case he (fun _ _ _ _ => trivial) ik_x333 trivial

def ii_x334 : ai_I := (([.inr (fr 0), .inl (0, 4294967295), .inl (0, 4294967295)], []), ((some (.inl (0, 4294967295)), []), (([200705, 200706], [35, 51, 52]), 3)))
set_option maxRecDepth 100000 in
theorem ik_x334 : ai_inst (ai_T0, ai_cts [(140, ii_x318)], ai_mem ai_inl, ii_x334.2.2.1, ([200705, 200706], [35, 51, 52]), ai_hds []) 1000000 49 [] ii_x334 = true := by decide +kernel
theorem ic_x334 {l : Launch} {X : fx_X} {Y : fx_Y} {B : fx_B} (he : ai_env X B) : ai_con l X Y B ai_T0 ai_N 49 ii_x334 := ai_case he (fun _ _ _ _ => trivial) ik_x334 ⟨ic_x318 he, trivial⟩

def ii_x335 : ai_I := (([.inr (fr 0), .inl (0, 4294967295), .inl (0, 4294967295)], []), ((some (.inl (2147483648, 2147483649)), []), (([200705, 200706], [35, 51, 52]), 3)))
set_option maxRecDepth 100000 in
theorem ik_x335 : ai_inst (ai_T0, ai_cts [], ai_mem ai_inl, ii_x335.2.2.1, ([200705, 200706], [35, 51, 52]), ai_hds []) 1000000 51 [] ii_x335 = true := by decide +kernel
theorem ic_x335 {l : Launch} {X : fx_X} {Y : fx_Y} {B : fx_B} (he : ai_env X B) : ai_con l X Y B ai_T0 ai_N 51 ii_x335 := ai_case he (fun _ _ _ _ => trivial) ik_x335 trivial

def ii_x336 : ai_I := (([.inr (fr 0), .inl (0, 4294967295)], []), ((some (.inl (0, 4294967295)), []), (([200705, 200706], [35, 51, 52]), 3)))
set_option maxRecDepth 100000 in
theorem ik_x336 : ai_inst (ai_T0, ai_cts [], ai_mem ai_inl, ii_x336.2.2.1, ([200705, 200706], [35, 51, 52]), ai_hds []) 1000000 53 [] ii_x336 = true := by decide +kernel
theorem ic_x336 {l : Launch} {X : fx_X} {Y : fx_Y} {B : fx_B} (he : ai_env X B) : ai_con l X Y B ai_T0 ai_N 53 ii_x336 := ai_case he (fun _ _ _ _ => trivial) ik_x336 trivial

def ii_x337 : ai_I := (([.inr (fr 0)], []), ((some (.inl (2147483648, 2147483649)), []), (([135170, 135171, 135172, 200705, 200706], [34, 35, 51, 52]), 3)))
set_option maxRecDepth 100000 in
theorem ik_x337 : ai_inst (ai_T0, ai_cts [], ai_mem ai_inl, ii_x337.2.2.1, ([135170, 135171, 135172, 200705, 200706], [34, 35, 51, 52]), ai_hds []) 1000000 55 [] ii_x337 = true := by decide +kernel
theorem ic_x337 {l : Launch} {X : fx_X} {Y : fx_Y} {B : fx_B} (he : ai_env X B) : ai_con l X Y B ai_T0 ai_N 55 ii_x337 := ai_case he (fun _ _ _ _ => trivial) ik_x337 trivial

def ii_x338 : ai_I := (([.inr (fr 0)], []), ((some (.inl (2147483648, 2147483649)), []), (([135170, 135171, 135172, 200705, 200706], [34, 35]), 3)))
set_option maxRecDepth 100000 in
theorem ik_x338 : ai_inst (ai_T0, ai_cts [], ai_mem ai_inl, ii_x338.2.2.1, ([135170, 135171, 135172, 200705, 200706], [34, 35]), ai_hds []) 1000000 57 [] ii_x338 = true := by decide +kernel
theorem ic_x338 {l : Launch} {X : fx_X} {Y : fx_Y} {B : fx_B} (he : ai_env X B) : ai_con l X Y B ai_T0 ai_N 57 ii_x338 := ai_case he (fun _ _ _ _ => trivial) ik_x338 trivial
