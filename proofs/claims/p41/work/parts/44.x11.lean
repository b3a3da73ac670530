def ii_x366 : ai_I := (([.inr (fr 36), .inl (2147483648, 2147483648)], []), ((some (.inl (2147483648, 2147483775)), []), (([], []), 0)))
set_option maxRecDepth 100000 in
theorem ik_x366 : ai_inst (ai_T0, ai_cts [], ai_mem ai_inl, ii_x366.2.2.1, ([], []), ai_hds [(4, [((0, (3, 0)), ([(0, (.inr (fr 36), (0, 0))), (1, (.inl (2147483648, 2147483648), (0, 0))), (2, (.inl (2147483648, 2147483775), (0, 0))), (3, (.inl (2147483648, 2147483655), (0, 0)))], []))])]) 1000000 193 [(4, 0)] ii_x366 = true := by decide +kernel
theorem ic_x366 {l : Launch} {X : fx_X} {Y : fx_Y} {B : fx_B} (he : ai_env X B) : ai_con l X Y B ai_T0 ai_N 193 ii_x366 := ai_case he (fun _ _ _ _ => trivial) ik_x366 trivial

def ii_x367 : ai_I := (([.inr (fr 0), .inl (0, 4294967295), .inl (0, 4294967295), .inl (0, 4294967295)], []), ((some (.inl (2147483647, 2147483775)), []), (([147466, 151554, 151555, 151556], [15, 18, 29, 32, 38, 39, 40, 41, 42, 43, 44, 45, 46, 47, 48]), 6)))
set_option maxRecDepth 100000 in
theorem ik_x367 : ai_inst (ai_T0, ai_cts [(127, ii_x306), (127, ii_x307), (189, ii_x361), (193, ii_x366)], ai_mem ai_inl, ii_x367.2.2.1, ([], [38, 44]), ai_hds []) 1000000 83 [] ii_x367 = true := by decide +kernel
theorem ic_x367 {l : Launch} {X : fx_X} {Y : fx_Y} {B : fx_B} (he : ai_env X B) : ai_con l X Y B ai_T0 ai_N 83 ii_x367 := ai_case he (fun _ _ _ _ => trivial) ik_x367 ⟨ic_x306 he, ic_x307 he, ic_x361 he, ic_x366 he, trivial⟩

def ii_x368 : ai_I := (([.inr (fr 0)], []), ((some (.inl (2147483647, 2147483663)), []), (([147466, 151554, 151555, 151556], [18, 32, 38, 39, 40, 41, 42, 46, 47, 48]), 4)))
set_option maxRecDepth 100000 in
theorem ik_x368 : ai_inst (ai_T0, ai_cts [(127, ii_x306), (127, ii_x307), (129, ii_x311), (140, ii_x318)], ai_mem ai_inl, ii_x368.2.2.1, ([], []), ai_hds [(21, [((0, (3, 0)), ([(0, (.inr (fr 0), (0, 0))), (1, (.inl (2147483647, 2147483663), (0, 0))), (2, (.inl (2147483647, 2147483657), (0, 0))), (3, (.inl (2147483648, 2147483664), (0, 0)))], [(1, (.inr (fr 19), (0, 0))), (2, (.inr (fr 33), (0, 0))), (3, (.inr (fr 36), (0, 0)))])), ((0, (3, 0)), ([(0, (.inr (fr 0), (0, 0))), (1, (.inl (2147483647, 2147483663), (0, 0))), (2, (.inl (2147483647, 2147483657), (0, 0))), (3, (.inl (2147483648, 2147483664), (0, 0)))], [(1, (.inr (fr 19), (0, 0))), (2, (.inr (fr 33), (0, 0))), (3, (.inr (fr 36), (0, 0)))])), ((0, (3, 0)), ([(0, (.inr (fr 0), (0, 0))), (1, (.inl (2147483647, 2147483663), (0, 0))), (2, (.inl (2147483647, 2147483657), (0, 0))), (3, (.inl (2147483648, 2147483664), (0, 0)))], [(1, (.inr (fr 5), (0, 0))), (2, (.inr (fr 33), (0, 0))), (3, (.inr (fr 36), (0, 0)))]))])]) 1000000 85 [(21, 0)] ii_x368 = true := by decide +kernel
theorem ic_x368 {l : Launch} {X : fx_X} {Y : fx_Y} {B : fx_B} (he : ai_env X B) : ai_con l X Y B ai_T0 ai_N 85 ii_x368 := ai_case he (fun _ _ _ _ => trivial) ik_x368 ⟨ic_x306 he, ic_x307 he, ic_x311 he, ic_x318 he, trivial⟩

def ii_x369 : ai_I := (([.inr (fr 0), .inl (2147483651, 2147483651), .inl (2147483651, 2147483651), .inl (2147483647, 2147483738), .inl (2147483648, 2147483718)], []), ((some (.inl (0, 4294967295)), []), (([], []), 2)))
set_option maxRecDepth 100000 in
theorem ik_x369 : ai_inst (ai_T0, ai_cts [(143, ii_x354)], ai_mem ai_inl, ii_x369.2.2.1, ([], []), ai_hds []) 1000000 194 [(48, 0)] ii_x369 = true := by decide +kernel
theorem ic_x369 {l : Launch} {X : fx_X} {Y : fx_Y} {B : fx_B} (he : ai_env X B) : ai_con l X Y B ai_T0 ai_N 194 ii_x369 := ai_case he (fun _ _ _ _ => trivial) ik_x369 ⟨ic_x354 he, trivial⟩

def ii_x370 : ai_I := (([.inr (fr 0), .inl (2147483650, 2147483650), .inl (2147483650, 2147483651), .inl (2147483647, 2147483738), .inl (2147483648, 2147483718)], []), ((some (.inl (0, 4294967295)), []), (([151554, 151555], [15, 18, 29, 32, 38, 43, 44, 45, 46, 47, 48]), 5)))
set_option maxRecDepth 100000 in
theorem ik_x370 : ai_inst (ai_T0, ai_cts [(143, ii_x354), (148, ii_x330), (194, ii_x369)], ai_mem ai_inl, ii_x370.2.2.1, ([151554, 151555], [38, 44]), ai_hds [(48, [((0, (7, 0)), ([(0, (.inr (fr 0), (0, 0))), (1, (.inl (2147483650, 2147483650), (0, 0))), (2, (.inl (2147483651, 2147483651), (0, 0))), (3, (.inl (2147483647, 4294967295), (0, 0))), (4, (.inl (0, 2147483718), (0, 0))), (5, (.inl (2147483648, 2147483649), (0, 0))), (6, (.inl (0, 4294967295), (0, 0))), (7, (.inl (2147483648, 2147483658), (0, 0)))], [(3, (.inr (fr 36), (0, 0))), (147456, (.inr (fr 37), (0, 0))), (147461, (.inr (fr 44), (0, 0))), (151552, (.inr (fr 38), (0, 0)))]))])]) 1000000 194 [(48, 0)] ii_x370 = true := by decide +kernel
theorem ic_x370 {l : Launch} {X : fx_X} {Y : fx_Y} {B : fx_B} (he : ai_env X B) : ai_con l X Y B ai_T0 ai_N 194 ii_x370 := ai_case he (fun _ _ _ _ => trivial) ik_x370 ⟨ic_x354 he, ic_x330 he, ic_x369 he, trivial⟩

def ii_x371 : ai_I := (([.inr (fr 0), .inl (2147483649, 2147483649), .inl (2147483649, 2147483651), .inl (2147483647, 2147483738), .inl (2147483718, 2147483718)], []), ((some (.inl (0, 4294967295)), []), (([151554, 151555], [15, 18, 29, 32, 38, 43, 44, 45, 46, 47, 48]), 6)))
set_option maxRecDepth 100000 in
theorem ik_x371 : ai_inst (ai_T0, ai_cts [(143, ii_x354), (148, ii_x330), (194, ii_x370)], ai_mem ai_inl, ii_x371.2.2.1, ([151554, 151555], [38, 44]), ai_hds [(48, [((0, (7, 0)), ([(0, (.inr (fr 0), (0, 0))), (1, (.inl (2147483649, 2147483649), (0, 0))), (2, (.inl (2147483650, 2147483651), (0, 0))), (3, (.inl (2147483647, 4294967295), (0, 0))), (4, (.inl (0, 2147483718), (0, 0))), (5, (.inl (2147483648, 2147483649), (0, 0))), (6, (.inl (0, 4294967295), (0, 0))), (7, (.inl (2147483648, 2147483658), (0, 0)))], [(3, (.inr (fr 36), (0, 0))), (147456, (.inr (fr 37), (0, 0))), (147461, (.inr (fr 44), (0, 0))), (151552, (.inr (fr 38), (0, 0)))]))])]) 1000000 194 [(48, 0)] ii_x371 = true := by decide +kernel
theorem ic_x371 {l : Launch} {X : fx_X} {Y : fx_Y} {B : fx_B} (he : ai_env X B) : ai_con l X Y B ai_T0 ai_N 194 ii_x371 := ai_case he (fun _ _ _ _ => trivial) ik_x371 ⟨ic_x354 he, ic_x330 he, ic_x370 he, trivial⟩

def ii_x372 : ai_I := (([.inr (fr 0), .inl (2147483648, 2147483648), .inl (2147483649, 2147483651), .inl (2147483647, 2147483647), .inl (2147483718, 2147483718)], []), ((some (.inl (0, 4294967295)), []), (([15, 151554, 151555], [15, 18, 29, 32, 38, 43, 44, 45, 46, 47, 48]), 7)))
set_option maxRecDepth 100000 in
theorem ik_x372 : ai_inst (ai_T0, ai_cts [(148, ii_x330), (194, ii_x371)], ai_mem ai_inl, ii_x372.2.2.1, ([15, 151554, 151555], [38, 44]), ai_hds [(48, [((0, (7, 0)), ([(0, (.inr (fr 0), (0, 0))), (1, (.inl (2147483648, 2147483648), (0, 0))), (2, (.inl (2147483649, 2147483651), (0, 0))), (3, (.inl (2147483647, 4294967295), (0, 0))), (4, (.inl (2147483718, 2147483718), (0, 0))), (5, (.inl (2147483649, 2147483649), (0, 0))), (6, (.inl (0, 4294967295), (0, 0))), (7, (.inl (2147483648, 2147483658), (0, 0)))], [(3, (.inr (fr 36), (0, 0))), (147456, (.inr (fr 37), (0, 0))), (147461, (.inr (fr 44), (0, 0))), (151552, (.inr (fr 38), (0, 0)))]))])]) 1000000 194 [(48, 0)] ii_x372 = true := by decide +kernel
theorem ic_x372 {l : Launch} {X : fx_X} {Y : fx_Y} {B : fx_B} (he : ai_env X B) : ai_con l X Y B ai_T0 ai_N 194 ii_x372 := ai_case he (fun _ _ _ _ => trivial) ik_x372 ⟨ic_x330 he, ic_x371 he, trivial⟩

def ii_x373 : ai_I := (([.inr (fr 0), .inl (0, 4294967295), .inl (0, 4294967295)], []), ((some (.inl (0, 4294967295)), []), (([15, 147466, 151554, 151555, 151556], [15, 18, 29, 32, 38, 39, 40, 41, 42, 43, 44, 45, 46, 47, 48]), 8)))
set_option maxRecDepth 100000 in
theorem ik_x373 : ai_inst (ai_T0, ai_cts [(127, ii_x306), (127, ii_x307), (194, ii_x372)], ai_mem ai_inl, ii_x373.2.2.1, ([], []), ai_hds []) 1000000 87 [] ii_x373 = true := by decide +kernel
theorem ic_x373 {l : Launch} {X : fx_X} {Y : fx_Y} {B : fx_B} (he : ai_env X B) : ai_con l X Y B ai_T0 ai_N 87 ii_x373 := ai_case he (fun _ _ _ _ => trivial) ik_x373 ⟨ic_x306 he, ic_x307 he, ic_x372 he, trivial⟩

def ii_x374 : ai_I := (([.inr (fr 0), .inl (2147483648, 2147483657), .inl (2147483648, 2147483668)], []), ((none, []), (([147466, 151554, 151555, 151556], [15, 18, 29, 32, 38, 39, 40, 41, 42, 43, 45, 46, 47, 48]), 5)))
set_option maxRecDepth 100000 in
theorem ik_x374 : ai_inst (ai_T0, ai_cts [(127, ii_x306), (127, ii_x307), (148, ii_x330)], ai_mem ai_inl, ii_x374.2.2.1, ([151554], []), ai_hds [(28, [((0, (3, 0)), ([(0, (.inr (fr 0), (0, 0))), (1, (.inl (2147483648, 2147483657), (0, 0))), (2, (.inl (2147483648, 2147483668), (0, 0))), (3, (.inl (2147483648, 2147483668), (0, 0)))], [(1, (.inr (fr 19), (0, 0))), (2, (.inr (fr 33), (0, 0))), (3, (.inr (fr 36), (0, 0))), (147456, (.inr (fr 37), (0, 0))), (151554, (.inl (2147483648, 2147483657), (0, 0)))])), ((0, (3, 0)), ([(0, (.inr (fr 0), (0, 0))), (1, (.inl (2147483648, 2147483657), (0, 0))), (2, (.inl (2147483648, 2147483668), (0, 0))), (3, (.inl (2147483648, 2147483668), (0, 0)))], [(1, (.inr (fr 19), (0, 0))), (2, (.inr (fr 33), (0, 0))), (3, (.inr (fr 36), (0, 0))), (147456, (.inr (fr 37), (0, 0))), (151554, (.inl (2147483648, 2147483657), (0, 0)))])), ((0, (3, 0)), ([(0, (.inr (fr 0), (0, 0))), (1, (.inl (2147483648, 2147483657), (0, 0))), (2, (.inl (2147483648, 2147483668), (0, 0))), (3, (.inl (2147483648, 2147483668), (0, 0)))], [(1, (.inr (fr 5), (0, 0))), (2, (.inr (fr 33), (0, 0))), (3, (.inr (fr 36), (0, 0))), (147456, (.inr (fr 37), (0, 0))), (151554, (.inl (2147483648, 2147483657), (0, 0)))]))])]) 1000000 197 [(28, 0)] ii_x374 = true := by decide +kernel
theorem ic_x374 {l : Launch} {X : fx_X} {Y : fx_Y} {B : fx_B} (he : ai_env X B) : ai_con l X Y B ai_T0 ai_N 197 ii_x374 := ai_case he (fun _ _ _ _ => trivial) ik_x374 ⟨ic_x306 he, ic_x307 he, ic_x330 he, trivial⟩

def ii_x375 : ai_I := (([.inr (fr 0), .inl (0, 4294967295), .inl (0, 4294967295)], []), ((some (.inl (2147483647, 2147483657)), []), (([147466, 151554, 151555, 151556], [15, 18, 29, 32, 38, 39, 40, 41, 42, 43, 45, 46, 47, 48]), 6)))
set_option maxRecDepth 100000 in
theorem ik_x375 : ai_inst (ai_T0, ai_cts [(143, ii_x354), (197, ii_x374)], ai_mem ai_inl, ii_x375.2.2.1, ([], []), ai_hds [(15, [((0, (3, 0)), ([(0, (.inr (fr 0), (0, 0))), (1, (.inl (0, 4294967295), (0, 0))), (2, (.inl (2147483649, 2147483668), (0, 0))), (3, (.inl (2147483648, 2147483658), (0, 0)))], []))])]) 1000000 89 [(15, 0)] ii_x375 = true := by decide +kernel
theorem ic_x375 {l : Launch} {X : fx_X} {Y : fx_Y} {B : fx_B} (he : ai_env X B) : ai_con l X Y B ai_T0 ai_N 89 ii_x375 := ai_case he (fun _ _ _ _ => trivial) ik_x375 ⟨ic_x354 he, ic_x374 he, trivial⟩

def ii_x376 : ai_I := (([.inr (fr 0), .inl (0, 4294967295)], []), ((some (.inl (2147483647, 2147483657)), []), (([147466, 151554, 151555, 151556], [15, 18, 29, 32, 38, 39, 40, 41, 42, 43, 45, 46, 47, 48]), 6)))
set_option maxRecDepth 100000 in
theorem ik_x376 : ai_inst (ai_T0, ai_cts [(145, ii_x340), (145, ii_x342), (197, ii_x374)], ai_mem ai_inl, ii_x376.2.2.1, ([], []), ai_hds [(18, [((0, (4, 0)), ([(0, (.inr (fr 0), (0, 0))), (1, (.inl (2147483648, 2147483668), (0, 0))), (2, (.inl (2147483647, 2147483657), (0, 0))), (3, (.inl (2147483648, 2147483648), (0, 0))), (4, (.inl (2147483648, 2147483658), (0, 0)))], [])), ((0, (4, 0)), ([(0, (.inr (fr 0), (0, 0))), (1, (.inl (2147483648, 2147483668), (0, 0))), (2, (.inl (2147483648, 2147483657), (0, 0))), (3, (.inl (0, 4294967295), (0, 0))), (4, (.inl (2147483649, 2147483658), (0, 0))), (5, (.inl (0, 4294967295), (0, 0)))], [(1, (.inr (fr 19), (0, 0))), (3, (.inr (fr 36), (0, 0))), (147456, (.inr (fr 37), (0, 0)))])), ((0, (4, 0)), ([(0, (.inr (fr 0), (0, 0))), (1, (.inl (2147483648, 2147483668), (0, 0))), (2, (.inl (2147483648, 2147483657), (0, 0))), (3, (.inl (0, 4294967295), (0, 0))), (4, (.inl (2147483649, 2147483658), (0, 0))), (5, (.inl (0, 4294967295), (0, 0)))], [(1, (.inr (fr 5), (0, 0))), (3, (.inr (fr 36), (0, 0))), (147456, (.inr (fr 37), (0, 0)))]))])]) 1000000 91 [(18, 0)] ii_x376 = true := by decide +kernel
theorem ic_x376 {l : Launch} {X : fx_X} {Y : fx_Y} {B : fx_B} (he : ai_env X B) : ai_con l X Y B ai_T0 ai_N 91 ii_x376 := ai_case he (fun _ _ _ _ => trivial) ik_x376 ⟨ic_x340 he, ic_x342 he, ic_x374 he, trivial⟩

def ii_x377 : ai_I := (([.inl (2147483648, 2147483748), .inl (2147483748, 2147483748)], []), ((some (.inl (2147483649, 2147483748)), []), (([], []), 0)))
set_option maxRecDepth 100000 in
theorem ik_x377 : ai_inst (ai_T0, ai_cts [], ai_mem ai_inl, ii_x377.2.2.1, ([], []), ai_hds [(2, [((0, (2, 0)), ([(0, (.inl (2147483648, 2147483748), (0, 0))), (1, (.inl (2147483649, 2147483748), (0, 0))), (2, (.inl (2147483648, 2147483748), (0, 0)))], []))])]) 1000000 199 [(2, 0)] ii_x377 = true := by decide +kernel
theorem ic_x377 {l : Launch} {X : fx_X} {Y : fx_Y} {B : fx_B} (he : ai_env X B) : ai_con l X Y B ai_T0 ai_N 199 ii_x377 := ai_case he (fun _ _ _ _ => trivial) ik_x377 trivial

def ii_x378 : ai_I := (([.inl (2147483648, 2147483748), .inl (2147483648, 2147483677)], []), ((some (.inl (0, 4294967295)), []), (([], []), 0)))
set_option maxRecDepth 100000 in
theorem ik_x378 : ai_inst (ai_T0, ai_cts [], ai_mem ai_inl, ii_x378.2.2.1, ([], []), ai_hds [(4, [((0, (3, 0)), ([(0, (.inl (2147483648, 2147483748), (0, 0))), (1, (.inl (2147483648, 2147483677), (0, 0))), (2, (.inl (0, 4294967295), (0, 0))), (3, (.inl (2147483648, 2147483652), (0, 0)))], []))])]) 1000000 200 [(4, 0)] ii_x378 = true := by decide +kernel
theorem ic_x378 {l : Launch} {X : fx_X} {Y : fx_Y} {B : fx_B} (he : ai_env X B) : ai_con l X Y B ai_T0 ai_N 200 ii_x378 := ai_case he (fun _ _ _ _ => trivial) ik_x378 trivial

def ii_x379 : ai_I := (([.inr (fr 0), .inl (0, 4294967295), .inl (0, 4294967295)], []), ((some (.inl (0, 4294967295)), []), (([], []), 1)))
set_option maxRecDepth 100000 in
theorem ik_x379 : ai_inst (ai_T0, ai_cts [(199, ii_x377), (200, ii_x378)], ai_mem ai_inl, ii_x379.2.2.1, ([], []), ai_hds []) 1000000 93 [] ii_x379 = true := by decide +kernel
theorem ic_x379 {l : Launch} {X : fx_X} {Y : fx_Y} {B : fx_B} (he : ai_env X B) : ai_con l X Y B ai_T0 ai_N 93 ii_x379 := ai_case he (fun _ _ _ _ => trivial) ik_x379 ⟨ic_x377 he, ic_x378 he, trivial⟩

def ii_x380 : ai_I := (([.inr (fr 0), .inl (0, 4294967295)], []), ((some (.inl (2147483647, 2147483775)), []), (([147466, 151554, 151555, 151556], [15, 18, 29, 32, 38, 39, 40, 41, 42, 43, 45, 46, 47, 48]), 5)))
set_option maxRecDepth 100000 in
theorem ik_x380 : ai_inst (ai_T0, ai_cts [(127, ii_x306), (127, ii_x307), (148, ii_x330)], ai_mem ai_inl, ii_x380.2.2.1, ([], []), ai_hds [(30, [((0, (4, 0)), ([(0, (.inr (fr 0), (0, 0))), (1, (.inl (0, 4294967295), (0, 0))), (2, (.inl (2147483648, 2147483648), (0, 0))), (3, (.inl (2147483648, 2147483648), (0, 0))), (4, (.inl (2147483648, 2147483648), (0, 0)))], [(1, (.inr (fr 19), (0, 0))), (2, (.inr (fr 33), (0, 0))), (3, (.inr (fr 36), (0, 0)))])), ((0, (4, 0)), ([(0, (.inr (fr 0), (0, 0))), (1, (.inl (0, 4294967295), (0, 0))), (2, (.inl (2147483648, 2147483775), (0, 0))), (3, (.inl (2147483648, 2147483775), (0, 0))), (4, (.inl (2147483648, 2147483655), (0, 0)))], [(1, (.inr (fr 19), (0, 0))), (2, (.inr (fr 33), (0, 0))), (3, (.inr (fr 36), (0, 0)))])), ((0, (4, 0)), ([(0, (.inr (fr 0), (0, 0))), (1, (.inl (0, 4294967295), (0, 0))), (2, (.inl (2147483648, 2147483775), (0, 0))), (3, (.inl (2147483648, 2147483775), (0, 0))), (4, (.inl (2147483648, 2147483655), (0, 0)))], [(1, (.inr (fr 5), (0, 0))), (2, (.inr (fr 33), (0, 0))), (3, (.inr (fr 36), (0, 0)))]))])]) 1000000 95 [(30, 0)] ii_x380 = true := by decide +kernel
theorem ic_x380 {l : Launch} {X : fx_X} {Y : fx_Y} {B : fx_B} (he : ai_env X B) : ai_con l X Y B ai_T0 ai_N 95 ii_x380 := ai_case he (fun _ _ _ _ => trivial) ik_x380 ⟨ic_x306 he, ic_x307 he, ic_x330 he, trivial⟩

def ii_x381 : ai_I := (([.inr (fr 0)], []), ((some (.inl (2147483647, 2147483654)), []), (([147466, 151554, 151555, 151556], [15, 18, 29, 32, 38, 39, 40, 41, 42, 43, 45, 46, 47, 48]), 5)))
set_option maxRecDepth 100000 in
theorem ik_x381 : ai_inst (ai_T0, ai_cts [(127, ii_x306), (127, ii_x307), (143, ii_x354), (148, ii_x330)], ai_mem ai_inl, ii_x381.2.2.1, ([], [38]), ai_hds [(6, [((0, (3, 0)), ([(0, (.inr (fr 0), (0, 0))), (1, (.inl (2147483647, 2147483647), (0, 0))), (2, (.inl (2147483648, 2147483648), (0, 0))), (3, (.inl (2147483648, 2147483648), (0, 0)))], [])), ((0, (3, 0)), ([(0, (.inr (fr 0), (0, 0))), (1, (.inl (2147483648, 2147483654), (0, 0))), (2, (.inl (0, 4294967295), (0, 0))), (3, (.inl (2147483649, 2147483655), (0, 0))), (4, (.inl (0, 4294967295), (0, 0)))], [(1, (.inr (fr 19), (0, 0))), (2, (.inr (fr 33), (0, 0))), (3, (.inr (fr 36), (0, 0))), (77836, (.inl (2147483649, 2147483655), (0, 0))), (147456, (.inr (fr 37), (0, 0))), (151552, (.inr (fr 38), (0, 0)))])), ((0, (3, 0)), ([(0, (.inr (fr 0), (0, 0))), (1, (.inl (2147483648, 2147483654), (0, 0))), (2, (.inl (0, 4294967295), (0, 0))), (3, (.inl (2147483649, 2147483655), (0, 0))), (4, (.inl (0, 4294967295), (0, 0)))], [(1, (.inr (fr 5), (0, 0))), (2, (.inr (fr 33), (0, 0))), (3, (.inr (fr 36), (0, 0))), (20492, (.inl (2147483649, 2147483655), (0, 0))), (147456, (.inr (fr 37), (0, 0))), (151552, (.inr (fr 38), (0, 0)))]))])]) 1000000 97 [(6, 0)] ii_x381 = true := by decide +kernel
theorem ic_x381 {l : Launch} {X : fx_X} {Y : fx_Y} {B : fx_B} (he : ai_env X B) : ai_con l X Y B ai_T0 ai_N 97 ii_x381 := ai_case he (fun _ _ _ _ => trivial) ik_x381 ⟨ic_x306 he, ic_x307 he, ic_x354 he, ic_x330 he, trivial⟩

def ii_x382 : ai_I := (([.inr (fr 0), .inl (0, 4294967295)], []), ((some (.inl (2147483647, 2147483654)), []), (([], []), 0)))
set_option maxRecDepth 100000 in
theorem ik_x382 : ai_inst (ai_T0, ai_cts [], ai_mem ai_inl, ii_x382.2.2.1, ([], []), ai_hds []) 1000000 99 [] ii_x382 = true := by decide +kernel
theorem ic_x382 {l : Launch} {X : fx_X} {Y : fx_Y} {B : fx_B} (he : ai_env X B) : ai_con l X Y B ai_T0 ai_N 99 ii_x382 := ai_case he (fun _ _ _ _ => trivial) ik_x382 trivial

def ii_x383 : ai_I := (([.inr (fr 0), .inl (0, 4294967295), .inl (0, 4294967295), .inl (0, 4294967295), .inl (2147483648, 2147483649)], []), ((some (.inl (2147483647, 2147483677)), []), (([229382], [57, 58, 59, 60, 61, 62]), 1)))
set_option maxRecDepth 100000 in
theorem ik_x383 : ai_inst (ai_T0, ai_cts [], ai_mem ai_inl, ii_x383.2.2.1, ([229382], [57, 58, 59, 60, 61, 62]), ai_hds []) 1000000 101 [] ii_x383 = true := by decide +kernel
theorem ic_x383 {l : Launch} {X : fx_X} {Y : fx_Y} {B : fx_B} (he : ai_env X B) : ai_con l X Y B ai_T0 ai_N 101 ii_x383 := ai_case he (fun _ _ _ _ => trivial) ik_x383 trivial

def ii_x384 : ai_I := (([.inr (fr 0), .inl (0, 4294967295)], []), ((some (.inl (2147483648, 2147483649)), []), (([], [62]), 1)))
set_option maxRecDepth 100000 in
theorem ik_x384 : ai_inst (ai_T0, ai_cts [], ai_mem ai_inl, ii_x384.2.2.1, ([], [62]), ai_hds []) 1000000 103 [] ii_x384 = true := by decide +kernel
theorem ic_x384 {l : Launch} {X : fx_X} {Y : fx_Y} {B : fx_B} (he : ai_env X B) : ai_con l X Y B ai_T0 ai_N 103 ii_x384 := ai_case he (fun _ _ _ _ => trivial) ik_x384 trivial

def ii_x385 : ai_I := (([.inr (fr 0), .inl (0, 4294967295)], []), ((some (.inl (0, 4294967295)), []), (([12], []), 1)))
set_option maxRecDepth 100000 in
theorem ik_x385 : ai_inst (ai_T0, ai_cts [], ai_mem ai_inl, ii_x385.2.2.1, ([12], []), ai_hds []) 1000000 105 [] ii_x385 = true := by decide +kernel
theorem ic_x385 {l : Launch} {X : fx_X} {Y : fx_Y} {B : fx_B} (he : ai_env X B) : ai_con l X Y B ai_T0 ai_N 105 ii_x385 := ai_case he (fun _ _ _ _ => trivial) ik_x385 trivial

def ii_x386 : ai_I := (([.inr (fr 56), .inl (0, 4294967295)], []), ((some (.inl (2147483647, 2147483654)), []), (([], []), 1)))
set_option maxRecDepth 100000 in
theorem ik_x386 : ai_inst (ai_T0, ai_cts [], ai_mem ai_inl, ii_x386.2.2.1, ([], []), ai_hds [(4, [((0, (3, 0)), ([(0, (.inr (fr 56), (0, 0))), (1, (.inl (0, 4294967295), (0, 0))), (2, (.inl (2147483647, 2147483654), (0, 0))), (3, (.inl (2147483648, 2147483678), (0, 0)))], []))])]) 1000000 237 [(4, 0)] ii_x386 = true := by decide +kernel
theorem ic_x386 {l : Launch} {X : fx_X} {Y : fx_Y} {B : fx_B} (he : ai_env X B) : ai_con l X Y B ai_T0 ai_N 237 ii_x386 := ai_case he (fun _ _ _ _ => trivial) ik_x386 trivial

def ii_x387 : ai_I := (([.inr (fr 56), .inl (2147483648, 2147483654), .inl (0, 4294967295), .inr (fr 37)], []), ((some (.inl (2147483648, 2147483649)), []), (([], []), 1)))
set_option maxRecDepth 100000 in
theorem ik_x387 : ai_inst (ai_T0, ai_cts [], ai_mem ai_inl, ii_x387.2.2.1, ([], []), ai_hds [(3, [((0, (4, 0)), ([(0, (.inr (fr 56), (0, 0))), (1, (.inl (2147483648, 2147483654), (0, 0))), (2, (.inl (0, 4294967295), (0, 0))), (3, (.inr (fr 37), (0, 0))), (4, (.inl (2147483648, 2147483678), (0, 0)))], []))])]) 1000000 265 [(3, 0)] ii_x387 = true := by decide +kernel
theorem ic_x387 {l : Launch} {X : fx_X} {Y : fx_Y} {B : fx_B} (he : ai_env X B) : ai_con l X Y B ai_T0 ai_N 265 ii_x387 := ai_case he (fun _ _ _ _ => trivial) ik_x387 trivial

def ii_x388 : ai_I := (([.inr (fr 0), .inl (2147483648, 2147483657), .inl (0, 4294967295), .inl (2147483647, 2147483654)], []), ((some (.inl (2147483648, 2147483649)), []), (([147466, 151554, 151555, 151556], [15, 18, 29, 32, 38, 39, 40, 41, 42, 43, 45, 46, 47, 48]), 5)))
set_option maxRecDepth 100000 in
theorem ik_x388 : ai_inst (ai_T0, ai_cts [(127, ii_x306), (127, ii_x307), (148, ii_x330), (265, ii_x387)], ai_mem ai_inl, ii_x388.2.2.1, ([151554], []), ai_hds [(29, [((0, (4, 0)), ([(0, (.inr (fr 0), (0, 0))), (1, (.inl (2147483648, 2147483657), (0, 0))), (2, (.inl (0, 4294967295), (0, 0))), (3, (.inl (2147483647, 2147483647), (0, 0))), (4, (.inl (2147483648, 2147483648), (0, 0)))], [(1, (.inr (fr 19), (0, 0))), (2, (.inr (fr 33), (0, 0))), (3, (.inr (fr 36), (0, 0))), (147456, (.inr (fr 37), (0, 0))), (151554, (.inl (2147483648, 2147483657), (0, 0)))])), ((0, (4, 0)), ([(0, (.inr (fr 0), (0, 0))), (1, (.inl (2147483648, 2147483657), (0, 0))), (2, (.inl (0, 4294967295), (0, 0))), (3, (.inl (2147483647, 2147483654), (0, 0))), (4, (.inl (2147483648, 2147483655), (0, 0)))], [(1, (.inr (fr 19), (0, 0))), (2, (.inr (fr 33), (0, 0))), (3, (.inr (fr 36), (0, 0))), (147456, (.inr (fr 37), (0, 0))), (151554, (.inl (2147483648, 2147483657), (0, 0)))])), ((0, (4, 0)), ([(0, (.inr (fr 0), (0, 0))), (1, (.inl (2147483648, 2147483657), (0, 0))), (2, (.inl (0, 4294967295), (0, 0))), (3, (.inl (2147483647, 2147483654), (0, 0))), (4, (.inl (2147483648, 2147483655), (0, 0)))], [(1, (.inr (fr 5), (0, 0))), (2, (.inr (fr 33), (0, 0))), (3, (.inr (fr 36), (0, 0))), (147456, (.inr (fr 37), (0, 0))), (151554, (.inl (2147483648, 2147483657), (0, 0)))]))])]) 1000000 238 [(29, 0)] ii_x388 = true := by decide +kernel
theorem ic_x388 {l : Launch} {X : fx_X} {Y : fx_Y} {B : fx_B} (he : ai_env X B) : ai_con l X Y B ai_T0 ai_N 238 ii_x388 := ai_case he (fun _ _ _ _ => trivial) ik_x388 ⟨ic_x306 he, ic_x307 he, ic_x330 he, ic_x387 he, trivial⟩

def ii_x389 : ai_I := (([.inr (fr 0), .inl (0, 4294967295)], []), ((some (.inl (2147483648, 4294967295)), []), (([147466, 151554, 151555, 151556], [15, 18, 29, 32, 38, 39, 40, 41, 42, 43, 45, 46, 47, 48]), 6)))
set_option maxRecDepth 100000 in
theorem ik_x389 : ai_inst (ai_T0, ai_cts [(237, ii_x386), (238, ii_x388)], ai_mem ai_inl, ii_x389.2.2.1, ([], []), ai_hds [(14, [((0, (4, 0)), ([(0, (.inr (fr 0), (0, 0))), (1, (.inl (0, 4294967295), (0, 0))), (2, (.inl (2147483647, 2147483654), (0, 0))), (3, (.inl (2147483648, 4294967295), (0, 0))), (4, (.inl (2147483648, 2147483658), (0, 0)))], [(6, (.inr (fr 56), (0, 0)))]))])]) 1000000 204 [(14, 0)] ii_x389 = true := by decide +kernel
theorem ic_x389 {l : Launch} {X : fx_X} {Y : fx_Y} {B : fx_B} (he : ai_env X B) : ai_con l X Y B ai_T0 ai_N 204 ii_x389 := ai_case he (fun _ _ _ _ => trivial) ik_x389 ⟨ic_x386 he, ic_x388 he, trivial⟩

def ii_x390 : ai_I := (([.inr (fr 0), .inl (0, 4294967295)], []), ((some (.inl (2147483648, 4294967295)), []), (([147466, 151554, 151555, 151556], [15, 18, 29, 32, 38, 39, 40, 41, 42, 43, 45, 46, 47, 48]), 7)))
set_option maxRecDepth 100000 in
theorem ik_x390 : ai_inst (ai_T0, ai_cts [(204, ii_x389)], ai_mem ai_inl, ii_x390.2.2.1, ([], []), ai_hds []) 1000000 107 [] ii_x390 = true := by decide +kernel
theorem ic_x390 {l : Launch} {X : fx_X} {Y : fx_Y} {B : fx_B} (he : ai_env X B) : ai_con l X Y B ai_T0 ai_N 107 ii_x390 := ai_case he (fun _ _ _ _ => trivial) ik_x390 ⟨ic_x389 he, trivial⟩

def ii_x391 : ai_I := (([.inr (fr 0), .inl (2147483649, 4294967295), .inl (2147483648, 2147483654)], []), ((none, []), (([147466, 151554, 151555, 151556], [15, 18, 29, 32, 38, 39, 40, 41, 42, 43, 45, 46, 47, 48, 66]), 6)))
set_option maxRecDepth 100000 in
theorem ik_x391 : ai_inst (ai_T0, ai_cts [(197, ii_x374)], ai_mem ai_inl, ii_x391.2.2.1, ([], [66]), ai_hds [(2, [((0, (3, 0)), ([(0, (.inr (fr 0), (0, 0))), (1, (.inl (2147483649, 4294967295), (0, 0))), (2, (.inl (2147483648, 2147483654), (0, 0))), (3, (.inl (2147483648, 2147483658), (0, 0)))], []))])]) 1000000 206 [(2, 0)] ii_x391 = true := by decide +kernel
theorem ic_x391 {l : Launch} {X : fx_X} {Y : fx_Y} {B : fx_B} (he : ai_env X B) : ai_con l X Y B ai_T0 ai_N 206 ii_x391 := ai_case he (fun _ _ _ _ => trivial) ik_x391 ⟨ic_x374 he, trivial⟩

def ii_x392 : ai_I := (([.inr (fr 65), .inl (2147483648, 2147483648)], []), ((none, []), (([], [65]), 0)))
set_option maxRecDepth 100000 in
theorem ik_x392 : ai_inst (ai_T0, ai_cts [], ai_mem ai_inl, ii_x392.2.2.1, ([], [65]), ai_hds [(5, [((0, (2, 0)), ([(0, (.inr (fr 65), (0, 0))), (1, (.inl (2147483648, 2147483648), (0, 0))), (2, (.inl (2147483648, 2147483658), (0, 0))), (3, (.inl (2147483658, 2147483658), (0, 0)))], []))])]) 1000000 14 [(5, 0)] ii_x392 = true := by decide +kernel
theorem ic_x392 {l : Launch} {X : fx_X} {Y : fx_Y} {B : fx_B} (he : ai_env X B) : ai_con l X Y B ai_T0 ai_N 14 ii_x392 := ai_case he (fun _ _ _ _ => trivial) ik_x392 trivial

def ii_x393 : ai_I := (([.inr (fr 0), .inl (2147483648, 2147483654), .inl (2147483649, 4294967295)], []), ((some (.inl (2147483648, 4294967295)), []), (([], [65]), 1)))
set_option maxRecDepth 100000 in
theorem ik_x393 : ai_inst (ai_T0, ai_cts [(14, ii_x392)], ai_mem ai_inl, ii_x393.2.2.1, ([], [65]), ai_hds [(13, [((0, (4, 0)), ([(0, (.inr (fr 0), (0, 0))), (1, (.inl (2147483648, 2147483654), (0, 0))), (2, (.inl (2147483649, 4294967295), (0, 0))), (3, (.inl (2147483648, 4294967295), (0, 0))), (4, (.inl (2147483648, 2147483658), (0, 0)))], [(9, (.inr (fr 65), (0, 0)))]))])]) 1000000 207 [(13, 0)] ii_x393 = true := by decide +kernel
theorem ic_x393 {l : Launch} {X : fx_X} {Y : fx_Y} {B : fx_B} (he : ai_env X B) : ai_con l X Y B ai_T0 ai_N 207 ii_x393 := ai_case he (fun _ _ _ _ => trivial) ik_x393 ⟨ic_x392 he, trivial⟩

def ii_x394 : ai_I := (([.inr (fr 0), .inl (0, 4294967295), .inl (0, 4294967295), .inl (0, 4294967295)], []), ((some (.inl (2147483647, 4294967295)), []), (([147466, 151554, 151555, 151556], [15, 18, 29, 32, 38, 39, 40, 41, 42, 43, 45, 46, 47, 48, 65, 66]), 7)))
set_option maxRecDepth 100000 in
theorem ik_x394 : ai_inst (ai_T0, ai_cts [(204, ii_x389), (206, ii_x391), (207, ii_x393)], ai_mem ai_inl, ii_x394.2.2.1, ([], []), ai_hds [(58, [((0, (7, 0)), ([(0, (.inr (fr 0), (0, 0))), (1, (.inl (2147483648, 2147483654), (0, 0))), (2, (.inl (2147483648, 2147483649), (0, 0))), (3, (.inl (0, 4294967295), (0, 0))), (4, (.inl (2147483649, 4294967295), (0, 0))), (5, (.inl (2147483647, 2147483654), (0, 0))), (6, (.inl (2147483648, 4294967295), (0, 0))), (7, (.inl (2147483648, 2147483655), (0, 0)))], [(1, (.inr (fr 19), (0, 0))), (77836, (.inl (2147483649, 2147483655), (0, 0)))])), ((0, (7, 0)), ([(0, (.inr (fr 0), (0, 0))), (1, (.inl (2147483648, 2147483654), (0, 0))), (2, (.inl (2147483648, 2147483649), (0, 0))), (3, (.inl (0, 4294967295), (0, 0))), (4, (.inl (2147483649, 4294967295), (0, 0))), (5, (.inl (2147483647, 2147483654), (0, 0))), (6, (.inl (2147483648, 4294967295), (0, 0))), (7, (.inl (2147483648, 2147483655), (0, 0)))], [(1, (.inr (fr 5), (0, 0))), (20492, (.inl (2147483649, 2147483655), (0, 0)))]))])]) 1000000 109 [(58, 0)] ii_x394 = true := by decide +kernel
theorem ic_x394 {l : Launch} {X : fx_X} {Y : fx_Y} {B : fx_B} (he : ai_env X B) : ai_con l X Y B ai_T0 ai_N 109 ii_x394 := ai_case he (fun _ _ _ _ => trivial) ik_x394 ⟨ic_x389 he, ic_x391 he, ic_x393 he, trivial⟩

def ii_x395 : ai_I := (([.inr (fr 0), .inl (0, 4294967295)], []), ((some (.inl (0, 4294967295)), []), (([], [54, 55]), 2)))
set_option maxRecDepth 100000 in
theorem ik_x395 : ai_inst (ai_T0, ai_cts [], ai_mem ai_inl, ii_x395.2.2.1, ([], [54, 55]), ai_hds []) 1000000 111 [] ii_x395 = true := by decide +kernel
theorem ic_x395 {l : Launch} {X : fx_X} {Y : fx_Y} {B : fx_B} (he : ai_env X B) : ai_con l X Y B ai_T0 ai_N 111 ii_x395 := ai_case he (fun _ _ _ _ => trivial) ik_x395 trivial

def ii_x396 : ai_I := (([.inr (fr 0), .inl (0, 4294967295)], []), ((some (.inl (0, 4294967295)), []), (([135170, 135171, 135172, 200705, 200706], [34, 35]), 2)))
set_option maxRecDepth 100000 in
theorem ik_x396 : ai_inst (ai_T0, ai_cts [], ai_mem ai_inl, ii_x396.2.2.1, ([135170, 135171, 135172, 200705, 200706], [34, 35]), ai_hds []) 1000000 113 [] ii_x396 = true := by decide +kernel
theorem ic_x396 {l : Launch} {X : fx_X} {Y : fx_Y} {B : fx_B} (he : ai_env X B) : ai_con l X Y B ai_T0 ai_N 113 ii_x396 := ai_case he (fun _ _ _ _ => trivial) ik_x396 trivial

def ii_x397 : ai_I := (([.inr (fr 0), .inl (0, 4294967295)], []), ((some (.inl (0, 4294967295)), []), (([], []), 0)))
set_option maxRecDepth 100000 in
theorem ik_x397 : ai_inst (ai_T0, ai_cts [], ai_mem ai_inl, ii_x397.2.2.1, ([], []), ai_hds []) 1000000 115 [] ii_x397 = true := by decide +kernel
theorem ic_x397 {l : Launch} {X : fx_X} {Y : fx_Y} {B : fx_B} (he : ai_env X B) : ai_con l X Y B ai_T0 ai_N 115 ii_x397 := ai_case he (fun _ _ _ _ => trivial) ik_x397 trivial
