def ii_x339 : ai_I := (([.inr (fr 19), .inl (2147483648, 2147483651), .inr (fr 37)], []), ((some (.inl (0, 4294967295)), []), (([], []), 1)))
set_option maxRecDepth 100000 in
theorem ik_x339 : ai_inst (ai_T0, ai_cts [(128, ii_x325), (134, ii_x313)], ai_mem ai_inl, ii_x339.2.2.1, ([], []), ai_hds []) 1000000 135 [] ii_x339 = true := by decide +kernel
theorem ic_x339 {l : Launch} {X : fx_X} {Y : fx_Y} {B : fx_B} (he : ai_env X B) : ai_con l X Y B ai_T0 ai_N 135 ii_x339 := ai_case he (fun _ _ _ _ => trivial) ik_x339 ⟨ic_x325 he, ic_x313 he, trivial⟩

def ii_x340 : ai_I := (([.inr (fr 19), .inr (fr 37)], []), ((some (.inl (0, 4294967295)), []), (([], []), 2)))
set_option maxRecDepth 100000 in
theorem ik_x340 : ai_inst (ai_T0, ai_cts [(135, ii_x339)], ai_mem ai_inl, ii_x340.2.2.1, ([], []), ai_hds [(4, [((0, (3, 0)), ([(0, (.inr (fr 19), (0, 0))), (1, (.inr (fr 37), (0, 0))), (2, (.inl (0, 4294967295), (0, 0))), (3, (.inl (2147483648, 2147483652), (0, 0)))], []))])]) 1000000 145 [(4, 0)] ii_x340 = true := by decide +kernel
theorem ic_x340 {l : Launch} {X : fx_X} {Y : fx_Y} {B : fx_B} (he : ai_env X B) : ai_con l X Y B ai_T0 ai_N 145 ii_x340 := ai_case he (fun _ _ _ _ => trivial) ik_x340 ⟨ic_x339 he, trivial⟩

def ii_x341 : ai_I := (([.inr (fr 5), .inl (2147483648, 2147483651), .inr (fr 37)], []), ((some (.inl (0, 4294967295)), []), (([], []), 1)))
set_option maxRecDepth 100000 in
theorem ik_x341 : ai_inst (ai_T0, ai_cts [(128, ii_x325), (134, ii_x314)], ai_mem ai_inl, ii_x341.2.2.1, ([], []), ai_hds []) 1000000 135 [] ii_x341 = true := by decide +kernel
theorem ic_x341 {l : Launch} {X : fx_X} {Y : fx_Y} {B : fx_B} (he : ai_env X B) : ai_con l X Y B ai_T0 ai_N 135 ii_x341 := ai_case he (fun _ _ _ _ => trivial) ik_x341 ⟨ic_x325 he, ic_x314 he, trivial⟩

def ii_x342 : ai_I := (([.inr (fr 5), .inr (fr 37)], []), ((some (.inl (0, 4294967295)), []), (([], []), 2)))
set_option maxRecDepth 100000 in
theorem ik_x342 : ai_inst (ai_T0, ai_cts [(135, ii_x341)], ai_mem ai_inl, ii_x342.2.2.1, ([], []), ai_hds [(4, [((0, (3, 0)), ([(0, (.inr (fr 5), (0, 0))), (1, (.inr (fr 37), (0, 0))), (2, (.inl (0, 4294967295), (0, 0))), (3, (.inl (2147483648, 2147483652), (0, 0)))], []))])]) 1000000 145 [(4, 0)] ii_x342 = true := by decide +kernel
theorem ic_x342 {l : Launch} {X : fx_X} {Y : fx_Y} {B : fx_B} (he : ai_env X B) : ai_con l X Y B ai_T0 ai_N 145 ii_x342 := ai_case he (fun _ _ _ _ => trivial) ik_x342 ⟨ic_x341 he, trivial⟩

def ii_x343 : ai_I := (([.inr (fr 0), .inl (0, 4294967295), .inl (0, 4294967295)], []), ((some (.inl (0, 4294967295)), []), (([147466, 151554, 151555, 151556], [38, 39, 40, 41, 42]), 4)))
set_option maxRecDepth 100000 in
theorem ik_x343 : ai_inst (ai_T0, ai_cts [(127, ii_x306), (127, ii_x307), (145, ii_x340), (145, ii_x342)], ai_mem ai_inl, ii_x343.2.2.1, ([], [38]), ai_hds [(40, [((0, (5, 0)), ([(0, (.inr (fr 0), (0, 0))), (1, (.inl (2147483648, 2147483654), (0, 0))), (2, (.inl (2147483648, 2147483649), (0, 0))), (3, (.inl (2147483647, 2147483657), (0, 0))), (4, (.inl (0, 4294967295), (0, 0))), (5, (.inl (2147483648, 2147483658), (0, 0)))], [(1, (.inr (fr 19), (0, 0))), (2, (.inr (fr 33), (0, 0))), (3, (.inr (fr 36), (0, 0))), (77836, (.inl (2147483649, 2147483655), (0, 0)))])), ((0, (5, 0)), ([(0, (.inr (fr 0), (0, 0))), (1, (.inl (2147483648, 2147483654), (0, 0))), (2, (.inl (2147483648, 2147483649), (0, 0))), (3, (.inl (2147483647, 2147483657), (0, 0))), (4, (.inl (0, 4294967295), (0, 0))), (5, (.inl (2147483648, 2147483658), (0, 0)))], [(1, (.inr (fr 5), (0, 0))), (2, (.inr (fr 33), (0, 0))), (3, (.inr (fr 36), (0, 0))), (20492, (.inl (2147483649, 2147483655), (0, 0)))]))])]) 1000000 59 [(40, 0)] ii_x343 = true := by decide +kernel
theorem ic_x343 {l : Launch} {X : fx_X} {Y : fx_Y} {B : fx_B} (he : ai_env X B) : ai_con l X Y B ai_T0 ai_N 59 ii_x343 := ai_case he (fun _ _ _ _ => trivial) ik_x343 ⟨ic_x306 he, ic_x307 he, ic_x340 he, ic_x342 he, trivial⟩

def ii_x344 : ai_I := (([.inr (fr 0), .inl (2147483648, 2147483775), .inl (2147483649, 2147483655)], []), ((some (.inl (0, 4294967295)), []), (([], []), 2)))
set_option maxRecDepth 100000 in
theorem ik_x344 : ai_inst (ai_T0, ai_cts [(128, ii_x308), (143, ii_x320)], ai_mem ai_inl, ii_x344.2.2.1, ([], []), ai_hds []) 1000000 166 [] ii_x344 = true := by decide +kernel
theorem ic_x344 {l : Launch} {X : fx_X} {Y : fx_Y} {B : fx_B} (he : ai_env X B) : ai_con l X Y B ai_T0 ai_N 166 ii_x344 := ai_case he (fun _ _ _ _ => trivial) ik_x344 ⟨ic_x308 he, ic_x320 he, trivial⟩

def ii_x345 : ai_I := (([.inr (fr 0), .inl (0, 4294967295), .inl (0, 4294967295)], []), ((some (.inl (0, 4294967295)), []), (([], []), 3)))
set_option maxRecDepth 100000 in
theorem ik_x345 : ai_inst (ai_T0, ai_cts [(128, ii_x308), (166, ii_x344)], ai_mem ai_inl, ii_x345.2.2.1, ([], []), ai_hds [(30, [((0, (4, 0)), ([(0, (.inr (fr 0), (0, 0))), (1, (.inl (2147483649, 2147483655), (0, 0))), (2, (.inl (2147483648, 2147483649), (0, 0))), (3, (.inl (2147483647, 2147483775), (0, 0))), (4, (.inl (2147483649, 2147483776), (0, 0)))], [(1, (.inr (fr 19), (0, 0))), (77836, (.inl (2147483649, 2147483655), (0, 0)))])), ((0, (4, 0)), ([(0, (.inr (fr 0), (0, 0))), (1, (.inl (2147483649, 2147483655), (0, 0))), (2, (.inl (2147483648, 2147483649), (0, 0))), (3, (.inl (2147483647, 2147483775), (0, 0))), (4, (.inl (2147483649, 2147483776), (0, 0)))], [(1, (.inr (fr 5), (0, 0))), (20492, (.inl (2147483649, 2147483655), (0, 0)))]))])]) 1000000 61 [(30, 0)] ii_x345 = true := by decide +kernel
theorem ic_x345 {l : Launch} {X : fx_X} {Y : fx_Y} {B : fx_B} (he : ai_env X B) : ai_con l X Y B ai_T0 ai_N 61 ii_x345 := ai_case he (fun _ _ _ _ => trivial) ik_x345 ⟨ic_x308 he, ic_x344 he, trivial⟩

def ii_x346 : ai_I := (([.inr (fr 0), .inl (0, 4294967295)], []), ((some (.inl (0, 4294967295)), []), (([], []), 3)))
set_option maxRecDepth 100000 in
theorem ik_x346 : ai_inst (ai_T0, ai_cts [(166, ii_x344)], ai_mem ai_inl, ii_x346.2.2.1, ([], []), ai_hds [(17, [((0, (3, 0)), ([(0, (.inr (fr 0), (0, 0))), (1, (.inl (2147483649, 2147483655), (0, 0))), (2, (.inl (2147483648, 2147483648), (0, 0))), (3, (.inl (2147483649, 2147483649), (0, 0)))], [])), ((0, (3, 0)), ([(0, (.inr (fr 0), (0, 0))), (1, (.inl (2147483649, 2147483655), (0, 0))), (2, (.inl (0, 4294967295), (0, 0))), (3, (.inl (2147483650, 2147483776), (0, 0)))], [(1, (.inr (fr 19), (0, 0)))])), ((0, (3, 0)), ([(0, (.inr (fr 0), (0, 0))), (1, (.inl (2147483649, 2147483655), (0, 0))), (2, (.inl (0, 4294967295), (0, 0))), (3, (.inl (2147483650, 2147483776), (0, 0)))], [(1, (.inr (fr 5), (0, 0)))]))])]) 1000000 63 [(17, 0)] ii_x346 = true := by decide +kernel
theorem ic_x346 {l : Launch} {X : fx_X} {Y : fx_Y} {B : fx_B} (he : ai_env X B) : ai_con l X Y B ai_T0 ai_N 63 ii_x346 := ai_case he (fun _ _ _ _ => trivial) ik_x346 ⟨ic_x344 he, trivial⟩

def ii_x347 : ai_I := (([.inr (fr 36), .inl (2147483648, 2147483775)], []), ((some (.inl (2147483648, 2147483775)), []), (([], []), 0)))
set_option maxRecDepth 100000 in
theorem ik_x347 : ai_inst (ai_T0, ai_cts [], ai_mem ai_inl, ii_x347.2.2.1, ([], []), ai_hds [(4, [((0, (3, 0)), ([(0, (.inr (fr 36), (0, 0))), (1, (.inl (2147483648, 2147483775), (0, 0))), (2, (.inl (2147483648, 2147483775), (0, 0))), (3, (.inl (2147483648, 2147483655), (0, 0)))], []))])]) 1000000 234 [(4, 0)] ii_x347 = true := by decide +kernel
theorem ic_x347 {l : Launch} {X : fx_X} {Y : fx_Y} {B : fx_B} (he : ai_env X B) : ai_con l X Y B ai_T0 ai_N 234 ii_x347 := ai_case he (fun _ _ _ _ => trivial) ik_x347 trivial

def ii_x348 : ai_I := (([.inr (fr 0), .inl (2147483648, 2147483654), .inl (2147483648, 2147483654)], []), ((some (.inl (2147483647, 2147483654)), []), (([], [64]), 1)))
set_option maxRecDepth 100000 in
theorem ik_x348 : ai_inst (ai_T0, ai_cts [(234, ii_x347)], ai_mem ai_inl, ii_x348.2.2.1, ([], [64]), ai_hds [(14, [((0, (4, 0)), ([(0, (.inr (fr 0), (0, 0))), (1, (.inl (2147483648, 2147483654), (0, 0))), (2, (.inl (2147483648, 2147483654), (0, 0))), (3, (.inl (2147483648, 2147483775), (0, 0))), (4, (.inl (2147483648, 2147483655), (0, 0)))], [(8, (.inr (fr 64), (0, 0)))]))])]) 1000000 170 [(14, 0)] ii_x348 = true := by decide +kernel
theorem ic_x348 {l : Launch} {X : fx_X} {Y : fx_Y} {B : fx_B} (he : ai_env X B) : ai_con l X Y B ai_T0 ai_N 170 ii_x348 := ai_case he (fun _ _ _ _ => trivial) ik_x348 ⟨ic_x347 he, trivial⟩

def ii_x349 : ai_I := (([.inl (2147483648, 2147483775)], []), ((some (.inl (2147483647, 2147483654)), []), (([], []), 0)))
set_option maxRecDepth 100000 in
theorem ik_x349 : ai_inst (ai_T0, ai_cts [], ai_mem ai_inl, ii_x349.2.2.1, ([], []), ai_hds [(2, [((0, (1, 0)), ([(0, (.inl (2147483648, 2147483775), (0, 0))), (1, (.inl (2147483648, 2147483655), (0, 0)))], []))])]) 1000000 173 [(2, 0)] ii_x349 = true := by decide +kernel
theorem ic_x349 {l : Launch} {X : fx_X} {Y : fx_Y} {B : fx_B} (he : ai_env X B) : ai_con l X Y B ai_T0 ai_N 173 ii_x349 := ai_case he (fun _ _ _ _ => trivial) ik_x349 trivial

def ii_x350 : ai_I := (([.inr (fr 0), .inl (0, 4294967295), .inl (0, 4294967295)], []), ((some (.inl (2147483647, 2147483654)), []), (([11, 147466, 151554, 151555, 151556], [38, 39, 40, 41, 42, 63, 64]), 4)))
set_option maxRecDepth 100000 in
theorem ik_x350 : ai_inst (ai_T0, ai_cts [(127, ii_x306), (127, ii_x307), (170, ii_x348), (173, ii_x349)], ai_mem ai_inl, ii_x350.2.2.1, ([11], [63]), ai_hds [(66, [((0, (5, 1)), ([(0, (.inr (fr 0), (0, 0))), (1, (.inl (2147483648, 2147483654), (0, 0))), (2, (.inl (2147483648, 2147483654), (0, 0))), (3, (.inl (2147483648, 2147483654), (0, 0))), (4, (.inl (2147483647, 2147483654), (0, 0))), (5, (.inl (2147483647, 2147483653), (0, 0)))], [(1, (.inr (fr 19), (0, 0))), (2, (.inr (fr 33), (0, 0))), (3, (.inr (fr 36), (0, 0))), (7, (.inr (fr 63), (0, 0))), (11, (.inl (2147483649, 2147483655), (0, 0))), (77836, (.inl (2147483649, 2147483655), (0, 0))), (135169, (.inr (fr 35), (0, 0)))])), ((0, (5, 1)), ([(0, (.inr (fr 0), (0, 0))), (1, (.inl (2147483648, 2147483654), (0, 0))), (2, (.inl (2147483648, 2147483654), (0, 0))), (3, (.inl (2147483648, 2147483654), (0, 0))), (4, (.inl (2147483647, 2147483654), (0, 0))), (5, (.inl (2147483647, 2147483653), (0, 0)))], [(1, (.inr (fr 5), (0, 0))), (2, (.inr (fr 33), (0, 0))), (3, (.inr (fr 36), (0, 0))), (7, (.inr (fr 63), (0, 0))), (11, (.inl (2147483649, 2147483655), (0, 0))), (20492, (.inl (2147483649, 2147483655), (0, 0))), (135169, (.inr (fr 35), (0, 0)))]))])]) 1000000 65 [(66, 0)] ii_x350 = true := by decide +kernel
theorem ic_x350 {l : Launch} {X : fx_X} {Y : fx_Y} {B : fx_B} (he : ai_env X B) : ai_con l X Y B ai_T0 ai_N 65 ii_x350 := ai_case he (fun _ _ _ _ => trivial) ik_x350 ⟨ic_x306 he, ic_x307 he, ic_x348 he, ic_x349 he, trivial⟩

def ii_x351 : ai_I := (([.inr (fr 33)], []), ((some (.inl (2147483648, 2147483775)), []), (([], []), 0)))
set_option maxRecDepth 100000 in
theorem ik_x351 : ai_inst (ai_T0, ai_cts [], ai_mem ai_inl, ii_x351.2.2.1, ([], []), ai_hds [(4, [((0, (2, 0)), ([(0, (.inr (fr 33), (0, 0))), (1, (.inl (2147483648, 2147483775), (0, 0))), (2, (.inl (2147483648, 2147483655), (0, 0)))], []))])]) 1000000 176 [(4, 0)] ii_x351 = true := by decide +kernel
theorem ic_x351 {l : Launch} {X : fx_X} {Y : fx_Y} {B : fx_B} (he : ai_env X B) : ai_con l X Y B ai_T0 ai_N 176 ii_x351 := ai_case he (fun _ _ _ _ => trivial) ik_x351 trivial

def ii_x352 : ai_I := (([.inr (fr 0), .inl (2147483647, 2147483654)], []), ((some (.inl (2147483648, 2147483775)), []), (([], []), 1)))
set_option maxRecDepth 100000 in
theorem ik_x352 : ai_inst (ai_T0, ai_cts [(234, ii_x347)], ai_mem ai_inl, ii_x352.2.2.1, ([], []), ai_hds [(14, [((0, (3, 0)), ([(0, (.inr (fr 0), (0, 0))), (1, (.inl (2147483647, 2147483654), (0, 0))), (2, (.inl (2147483648, 2147483775), (0, 0))), (3, (.inl (2147483648, 2147483655), (0, 0)))], []))])]) 1000000 177 [(14, 0)] ii_x352 = true := by decide +kernel
theorem ic_x352 {l : Launch} {X : fx_X} {Y : fx_Y} {B : fx_B} (he : ai_env X B) : ai_con l X Y B ai_T0 ai_N 177 ii_x352 := ai_case he (fun _ _ _ _ => trivial) ik_x352 ⟨ic_x347 he, trivial⟩

def ii_x353 : ai_I := (([.inr (fr 0)], []), ((some (.inl (0, 4294967295)), []), (([147466, 151554, 151555, 151556], [38, 39, 40, 41, 42]), 4)))
set_option maxRecDepth 100000 in
theorem ik_x353 : ai_inst (ai_T0, ai_cts [(127, ii_x306), (127, ii_x307), (173, ii_x349), (176, ii_x351), (177, ii_x352)], ai_mem ai_inl, ii_x353.2.2.1, ([], []), ai_hds [(27, [((0, (3, 0)), ([(0, (.inr (fr 0), (0, 0))), (1, (.inl (2147483648, 2147483775), (0, 0))), (2, (.inl (0, 4294967295), (0, 0))), (3, (.inl (2147483648, 2147483655), (0, 0)))], [(1, (.inr (fr 19), (0, 0))), (2, (.inr (fr 33), (0, 0))), (3, (.inr (fr 36), (0, 0)))])), ((0, (3, 0)), ([(0, (.inr (fr 0), (0, 0))), (1, (.inl (2147483648, 2147483775), (0, 0))), (2, (.inl (0, 4294967295), (0, 0))), (3, (.inl (2147483648, 2147483655), (0, 0)))], [(1, (.inr (fr 19), (0, 0))), (2, (.inr (fr 33), (0, 0))), (3, (.inr (fr 36), (0, 0)))])), ((0, (3, 0)), ([(0, (.inr (fr 0), (0, 0))), (1, (.inl (2147483648, 2147483775), (0, 0))), (2, (.inl (0, 4294967295), (0, 0))), (3, (.inl (2147483648, 2147483655), (0, 0)))], [(1, (.inr (fr 5), (0, 0))), (2, (.inr (fr 33), (0, 0))), (3, (.inr (fr 36), (0, 0)))]))])]) 1000000 67 [(27, 0)] ii_x353 = true := by decide +kernel
theorem ic_x353 {l : Launch} {X : fx_X} {Y : fx_Y} {B : fx_B} (he : ai_env X B) : ai_con l X Y B ai_T0 ai_N 67 ii_x353 := ai_case he (fun _ _ _ _ => trivial) ik_x353 ⟨ic_x306 he, ic_x307 he, ic_x349 he, ic_x351 he, ic_x352 he, trivial⟩

def ii_x354 : ai_I := (([.inr (fr 37)], []), ((some (.inl (0, 4294967295)), []), (([], []), 1)))
set_option maxRecDepth 100000 in
theorem ik_x354 : ai_inst (ai_T0, ai_cts [(128, ii_x325)], ai_mem ai_inl, ii_x354.2.2.1, ([], []), ai_hds []) 1000000 143 [] ii_x354 = true := by decide +kernel
theorem ic_x354 {l : Launch} {X : fx_X} {Y : fx_Y} {B : fx_B} (he : ai_env X B) : ai_con l X Y B ai_T0 ai_N 143 ii_x354 := ai_case he (fun _ _ _ _ => trivial) ik_x354 ⟨ic_x325 he, trivial⟩

def ii_x355 : ai_I := (([.inr (fr 0), .inl (2147483648, 2147483654), .inl (2147483648, 2147483663)], []), ((some (.inl (0, 4294967295)), []), (([147466, 151554, 151555, 151556], [15, 18, 29, 32, 38, 39, 40, 41, 42, 43, 45, 46, 47, 48]), 5)))
set_option maxRecDepth 100000 in
theorem ik_x355 : ai_inst (ai_T0, ai_cts [(127, ii_x306), (127, ii_x307), (143, ii_x354), (148, ii_x330), (227, ii_x305)], ai_mem ai_inl, ii_x355.2.2.1, ([], [39]), ai_hds []) 1000000 180 [] ii_x355 = true := by decide +kernel
theorem ic_x355 {l : Launch} {X : fx_X} {Y : fx_Y} {B : fx_B} (he : ai_env X B) : ai_con l X Y B ai_T0 ai_N 180 ii_x355 := ai_case he (fun _ _ _ _ => trivial) ik_x355 ⟨ic_x306 he, ic_x307 he, ic_x354 he, ic_x330 he, ic_x305 he, trivial⟩

def ii_x356 : ai_I := (([.inr (fr 0), .inl (0, 4294967295), .inl (0, 4294967295)], []), ((some (.inl (2147483647, 4294967295)), []), (([147466, 151554, 151555, 151556], [15, 18, 29, 32, 38, 39, 40, 41, 42, 43, 45, 46, 47, 48]), 6)))
set_option maxRecDepth 100000 in
theorem ik_x356 : ai_inst (ai_T0, ai_cts [(140, ii_x318), (180, ii_x355)], ai_mem ai_inl, ii_x356.2.2.1, ([], []), ai_hds [(25, [((0, (5, 0)), ([(0, (.inr (fr 0), (0, 0))), (1, (.inl (2147483648, 2147483654), (0, 0))), (2, (.inl (2147483648, 2147483649), (0, 0))), (3, (.inl (2147483647, 2147483663), (0, 0))), (4, (.inl (2147483647, 4294967295), (0, 0))), (5, (.inl (2147483648, 2147483664), (0, 0)))], [(1, (.inr (fr 19), (0, 0))), (77836, (.inl (2147483649, 2147483655), (0, 0)))])), ((0, (5, 0)), ([(0, (.inr (fr 0), (0, 0))), (1, (.inl (2147483648, 2147483654), (0, 0))), (2, (.inl (2147483648, 2147483649), (0, 0))), (3, (.inl (2147483647, 2147483663), (0, 0))), (4, (.inl (2147483647, 4294967295), (0, 0))), (5, (.inl (2147483648, 2147483664), (0, 0)))], [(1, (.inr (fr 5), (0, 0))), (20492, (.inl (2147483649, 2147483655), (0, 0)))]))])]) 1000000 69 [(25, 0)] ii_x356 = true := by decide +kernel
theorem ic_x356 {l : Launch} {X : fx_X} {Y : fx_Y} {B : fx_B} (he : ai_env X B) : ai_con l X Y B ai_T0 ai_N 69 ii_x356 := ai_case he (fun _ _ _ _ => trivial) ik_x356 ⟨ic_x318 he, ic_x355 he, trivial⟩

def ii_x357 : ai_I := (([.inr (fr 0), .inl (2147483648, 2147483654), .inl (2147483649, 2147483654)], []), ((some (.inl (0, 4294967295)), []), (([147466, 151554, 151555, 151556], [15, 18, 29, 32, 38, 39, 40, 41, 42, 43, 45, 46, 47, 48]), 5)))
set_option maxRecDepth 100000 in
theorem ik_x357 : ai_inst (ai_T0, ai_cts [(127, ii_x306), (127, ii_x307), (143, ii_x354), (148, ii_x330), (227, ii_x305)], ai_mem ai_inl, ii_x357.2.2.1, ([], [39]), ai_hds []) 1000000 183 [] ii_x357 = true := by decide +kernel
theorem ic_x357 {l : Launch} {X : fx_X} {Y : fx_Y} {B : fx_B} (he : ai_env X B) : ai_con l X Y B ai_T0 ai_N 183 ii_x357 := ai_case he (fun _ _ _ _ => trivial) ik_x357 ⟨ic_x306 he, ic_x307 he, ic_x354 he, ic_x330 he, ic_x305 he, trivial⟩

def ii_x358 : ai_I := (([.inr (fr 0), .inl (0, 4294967295)], []), ((some (.inl (2147483647, 4294967295)), []), (([147466, 151554, 151555, 151556], [15, 18, 29, 32, 38, 39, 40, 41, 42, 43, 45, 46, 47, 48]), 6)))
set_option maxRecDepth 100000 in
theorem ik_x358 : ai_inst (ai_T0, ai_cts [(183, ii_x357)], ai_mem ai_inl, ii_x358.2.2.1, ([], []), ai_hds [(10, [((0, (5, 0)), ([(0, (.inr (fr 0), (0, 0))), (1, (.inl (0, 4294967295), (0, 0))), (2, (.inl (2147483647, 2147483654), (0, 0))), (3, (.inl (2147483647, 2147483654), (0, 0))), (4, (.inl (2147483647, 4294967295), (0, 0))), (5, (.inl (2147483648, 2147483655), (0, 0)))], []))]), (28, [((0, (6, 0)), ([(0, (.inr (fr 0), (0, 0))), (1, (.inl (0, 4294967295), (0, 0))), (2, (.inl (2147483647, 2147483654), (0, 0))), (3, (.inl (2147483647, 2147483654), (0, 0))), (4, (.inl (2147483647, 4294967295), (0, 0))), (5, (.inl (2147483648, 2147483654), (0, 2147483648))), (6, (.inl (2147483649, 2147483655), (0, 0)))], []))])]) 1000000 71 [(10, 0), (28, 0)] ii_x358 = true := by decide +kernel
theorem ic_x358 {l : Launch} {X : fx_X} {Y : fx_Y} {B : fx_B} (he : ai_env X B) : ai_con l X Y B ai_T0 ai_N 71 ii_x358 := ai_case he (fun _ _ _ _ => trivial) ik_x358 ⟨ic_x357 he, trivial⟩

def ii_x359 : ai_I := (([.inr (fr 0)], []), ((some (.inl (2147483647, 2147483708)), []), (([147466, 151554, 151555, 151556], [15, 18, 29, 32, 38, 39, 40, 41, 42, 43, 45, 46, 47, 48]), 5)))
set_option maxRecDepth 100000 in
theorem ik_x359 : ai_inst (ai_T0, ai_cts [(127, ii_x306), (127, ii_x307), (148, ii_x330)], ai_mem ai_inl, ii_x359.2.2.1, ([], []), ai_hds [(17, [((0, (1, 0)), ([(0, (.inr (fr 0), (0, 0))), (1, (.inl (2147483648, 2147483648), (0, 0)))], [(1, (.inr (fr 19), (0, 0))), (2, (.inr (fr 33), (0, 0))), (3, (.inr (fr 36), (0, 0)))])), ((0, (1, 0)), ([(0, (.inr (fr 0), (0, 0))), (1, (.inl (2147483648, 2147483711), (0, 0)))], [(1, (.inr (fr 19), (0, 0))), (2, (.inr (fr 33), (0, 0))), (3, (.inr (fr 36), (0, 0)))])), ((0, (1, 0)), ([(0, (.inr (fr 0), (0, 0))), (1, (.inl (2147483648, 2147483711), (0, 0)))], [(1, (.inr (fr 5), (0, 0))), (2, (.inr (fr 33), (0, 0))), (3, (.inr (fr 36), (0, 0)))]))])]) 1000000 73 [(17, 0)] ii_x359 = true := by decide +kernel
theorem ic_x359 {l : Launch} {X : fx_X} {Y : fx_Y} {B : fx_B} (he : ai_env X B) : ai_con l X Y B ai_T0 ai_N 73 ii_x359 := ai_case he (fun _ _ _ _ => trivial) ik_x359 ⟨ic_x306 he, ic_x307 he, ic_x330 he, trivial⟩

def ii_x360 : ai_I := (([.inr (fr 0), .inl (0, 4294967295), .inl (0, 4294967295)], []), ((some (.inl (0, 4294967295)), []), (([147466, 151554, 151555, 151556], [15, 18, 29, 32, 38, 39, 40, 41, 42, 43, 45, 46, 47, 48]), 5)))
set_option maxRecDepth 100000 in
theorem ik_x360 : ai_inst (ai_T0, ai_cts [(127, ii_x306), (127, ii_x307), (148, ii_x330), (149, ii_x331)], ai_mem ai_inl, ii_x360.2.2.1, ([], []), ai_hds [(36, [((0, (3, 0)), ([(0, (.inr (fr 0), (0, 0))), (1, (.inl (2147483648, 2147483654), (0, 0))), (2, (.inl (2147483648, 2147483708), (0, 0))), (3, (.inl (2147483648, 2147483708), (0, 0)))], [(1, (.inr (fr 19), (0, 0))), (2, (.inr (fr 33), (0, 0))), (3, (.inr (fr 36), (0, 0))), (77836, (.inl (2147483649, 2147483655), (0, 0)))])), ((0, (3, 0)), ([(0, (.inr (fr 0), (0, 0))), (1, (.inl (2147483648, 2147483654), (0, 0))), (2, (.inl (2147483648, 2147483708), (0, 0))), (3, (.inl (2147483648, 2147483708), (0, 0)))], [(1, (.inr (fr 5), (0, 0))), (2, (.inr (fr 33), (0, 0))), (3, (.inr (fr 36), (0, 0))), (20492, (.inl (2147483649, 2147483655), (0, 0)))]))])]) 1000000 75 [(36, 0)] ii_x360 = true := by decide +kernel
theorem ic_x360 {l : Launch} {X : fx_X} {Y : fx_Y} {B : fx_B} (he : ai_env X B) : ai_con l X Y B ai_T0 ai_N 75 ii_x360 := ai_case he (fun _ _ _ _ => trivial) ik_x360 ⟨ic_x306 he, ic_x307 he, ic_x330 he, ic_x331 he, trivial⟩

def ii_x361 : ai_I := (([.inr (fr 36), .inl (2147483648, 2147483708)], []), ((none, []), (([151555], [15, 18, 29, 32, 38, 43, 45, 46, 47, 48]), 5)))
set_option maxRecDepth 100000 in
theorem ik_x361 : ai_inst (ai_T0, ai_cts [(148, ii_x330)], ai_mem ai_inl, ii_x361.2.2.1, ([], []), ai_hds [(2, [((0, (2, 0)), ([(0, (.inr (fr 36), (0, 0))), (1, (.inl (2147483648, 2147483708), (0, 0))), (2, (.inl (2147483648, 2147483708), (0, 0)))], []))])]) 1000000 189 [(2, 0)] ii_x361 = true := by decide +kernel
theorem ic_x361 {l : Launch} {X : fx_X} {Y : fx_Y} {B : fx_B} (he : ai_env X B) : ai_con l X Y B ai_T0 ai_N 189 ii_x361 := ai_case he (fun _ _ _ _ => trivial) ik_x361 ⟨ic_x330 he, trivial⟩

def ii_x362 : ai_I := (([.inr (fr 0), .inl (0, 4294967295)], []), ((some (.inl (0, 4294967295)), []), (([147466, 151554, 151555, 151556], [15, 18, 29, 32, 38, 39, 40, 41, 42, 43, 45, 46, 47, 48]), 6)))
set_option maxRecDepth 100000 in
theorem ik_x362 : ai_inst (ai_T0, ai_cts [(127, ii_x306), (127, ii_x307), (143, ii_x354), (189, ii_x361)], ai_mem ai_inl, ii_x362.2.2.1, ([], []), ai_hds []) 1000000 77 [] ii_x362 = true := by decide +kernel
theorem ic_x362 {l : Launch} {X : fx_X} {Y : fx_Y} {B : fx_B} (he : ai_env X B) : ai_con l X Y B ai_T0 ai_N 77 ii_x362 := ai_case he (fun _ _ _ _ => trivial) ik_x362 ⟨ic_x306 he, ic_x307 he, ic_x354 he, ic_x361 he, trivial⟩

def ii_x363 : ai_I := (([.inr (fr 36)], []), ((some (.inl (2147483648, 2147483649)), []), (([], []), 0)))
set_option maxRecDepth 100000 in
theorem ik_x363 : ai_inst (ai_T0, ai_cts [], ai_mem ai_inl, ii_x363.2.2.1, ([], []), ai_hds [(2, [((0, (1, 0)), ([(0, (.inr (fr 36), (0, 0))), (1, (.inl (2147483649, 2147483649), (0, 0)))], [])), ((0, (1, 0)), ([(0, (.inr (fr 36), (0, 0))), (1, (.inl (2147483650, 2147483655), (0, 0)))], [(20492, (.inl (2147483650, 2147483655), (0, 0))), (147456, (.inr (fr 37), (0, 0))), (147466, (.inr (fr 5), (0, 0))), (151552, (.inr (fr 38), (0, 0)))])), ((0, (1, 0)), ([(0, (.inr (fr 36), (0, 0))), (1, (.inl (2147483650, 2147483655), (0, 0)))], [(77836, (.inl (2147483650, 2147483655), (0, 0))), (147456, (.inr (fr 37), (0, 0))), (147466, (.inr (fr 19), (0, 0))), (151552, (.inr (fr 38), (0, 0)))]))])]) 1000000 190 [(2, 0)] ii_x363 = true := by decide +kernel
theorem ic_x363 {l : Launch} {X : fx_X} {Y : fx_Y} {B : fx_B} (he : ai_env X B) : ai_con l X Y B ai_T0 ai_N 190 ii_x363 := ai_case he (fun _ _ _ _ => trivial) ik_x363 trivial

def ii_x364 : ai_I := (([.inr (fr 0)], []), ((some (.inl (2147483647, 2147483708)), []), (([147466, 151554, 151555, 151556], [15, 18, 29, 32, 38, 39, 40, 41, 42, 43, 45, 46, 47, 48]), 5)))
set_option maxRecDepth 100000 in
theorem ik_x364 : ai_inst (ai_T0, ai_cts [(127, ii_x306), (127, ii_x307), (148, ii_x330), (190, ii_x363)], ai_mem ai_inl, ii_x364.2.2.1, ([], []), ai_hds [(29, [((0, (1, 0)), ([(0, (.inr (fr 0), (0, 0))), (1, (.inl (2147483648, 2147483711), (0, 0)))], [(1, (.inr (fr 19), (0, 0))), (2, (.inr (fr 33), (0, 0))), (3, (.inr (fr 36), (0, 0))), (77836, (.inl (2147483649, 2147483655), (0, 0)))])), ((0, (1, 0)), ([(0, (.inr (fr 0), (0, 0))), (1, (.inl (2147483648, 2147483711), (0, 0)))], [(1, (.inr (fr 5), (0, 0))), (2, (.inr (fr 33), (0, 0))), (3, (.inr (fr 36), (0, 0))), (20492, (.inl (2147483649, 2147483655), (0, 0)))]))])]) 1000000 79 [(29, 0)] ii_x364 = true := by decide +kernel
theorem ic_x364 {l : Launch} {X : fx_X} {Y : fx_Y} {B : fx_B} (he : ai_env X B) : ai_con l X Y B ai_T0 ai_N 79 ii_x364 := ai_case he (fun _ _ _ _ => trivial) ik_x364 ⟨ic_x306 he, ic_x307 he, ic_x330 he, ic_x363 he, trivial⟩

def ii_x365 : ai_I := (([.inr (fr 0), .inl (0, 4294967295)], []), ((some (.inl (0, 4294967295)), []), (([147466, 151554, 151555, 151556], [15, 18, 29, 32, 38, 39, 40, 41, 42, 43, 45, 46, 47, 48]), 5)))
set_option maxRecDepth 100000 in
theorem ik_x365 : ai_inst (ai_T0, ai_cts [(127, ii_x306), (127, ii_x307), (148, ii_x330)], ai_mem ai_inl, ii_x365.2.2.1, ([], []), ai_hds [(30, [((0, (3, 0)), ([(0, (.inr (fr 0), (0, 0))), (1, (.inl (2147483648, 2147483708), (0, 0))), (2, (.inl (2147483648, 2147483648), (0, 0))), (3, (.inl (2147483648, 2147483708), (0, 0)))], [(1, (.inr (fr 19), (0, 0))), (2, (.inr (fr 33), (0, 0))), (3, (.inr (fr 36), (0, 0)))])), ((0, (3, 0)), ([(0, (.inr (fr 0), (0, 0))), (1, (.inl (2147483648, 2147483708), (0, 0))), (2, (.inl (0, 4294967295), (0, 0))), (3, (.inl (2147483648, 2147483708), (0, 0)))], [(1, (.inr (fr 19), (0, 0))), (2, (.inr (fr 33), (0, 0))), (3, (.inr (fr 36), (0, 0)))])), ((0, (3, 0)), ([(0, (.inr (fr 0), (0, 0))), (1, (.inl (2147483648, 2147483708), (0, 0))), (2, (.inl (0, 4294967295), (0, 0))), (3, (.inl (2147483648, 2147483708), (0, 0)))], [(1, (.inr (fr 5), (0, 0))), (2, (.inr (fr 33), (0, 0))), (3, (.inr (fr 36), (0, 0)))]))])]) 1000000 81 [(30, 0)] ii_x365 = true := by decide +kernel
theorem ic_x365 {l : Launch} {X : fx_X} {Y : fx_Y} {B : fx_B} (he : ai_env X B) : ai_con l X Y B ai_T0 ai_N 81 ii_x365 := ai_case he (fun _ _ _ _ => trivial) ik_x365 ⟨ic_x306 he, ic_x307 he, ic_x330 he, trivial⟩
