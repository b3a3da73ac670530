def ii_x296 : ai_I := (([.inr (fr 1)], []), ((some (.inl (2147483648, 2147483649)), []), (([4098, 4099, 8194, 8196, 8197, 8198, 8199, 20493, 20494, 20496, 77837, 77838, 77840], []), 6)))
set_option maxRecDepth 100000 in
theorem ik_x296 : ai_inst (ai_T0, ai_cts [(240, ii_x19), (247, ii_x21)], ai_mem ai_inl, ii_x296.2.2.1, ([4098, 4099, 20493, 20494, 20496, 77837, 77838, 77840], []), ai_hds []) 1000000 248 [] ii_x296 = true := by decide +kernel
theorem ic_x296 {l : Launch} {X : fx_X} {Y : fx_Y} {B : fx_B} (he : ai_env X B) : ai_con l X Y B ai_T0 ai_N 248 ii_x296 := ai_case he (fun _ _ _ _ => trivial) ik_x296 ⟨ic_x19 he, ic_x21 he, trivial⟩

def ii_x297 : ai_I := (([.inr (fr 1)], []), ((some (.inl (2147483648, 2147483649)), []), (([4098, 4099, 8194, 8196, 8197, 8198, 8199, 20495, 20497, 77839, 77841], []), 6)))
set_option maxRecDepth 100000 in
theorem ik_x297 : ai_inst (ai_T0, ai_cts [(240, ii_x19), (247, ii_x21)], ai_mem ai_inl, ii_x297.2.2.1, ([4098, 4099, 20495, 20497, 77839, 77841], []), ai_hds []) 1000000 249 [] ii_x297 = true := by decide +kernel
theorem ic_x297 {l : Launch} {X : fx_X} {Y : fx_Y} {B : fx_B} (he : ai_env X B) : ai_con l X Y B ai_T0 ai_N 249 ii_x297 := ai_case he (fun _ _ _ _ => trivial) ik_x297 ⟨ic_x19 he, ic_x21 he, trivial⟩

def ii_x298 : ai_I := (([.inr (fr 1), .inl (2147483648, 2147483649)], []), ((some (.inl (2147483648, 2147483649)), []), (([4098, 4099, 8194, 8196, 8197, 8198, 8199, 20489, 20490, 20491, 20492, 20493, 20494, 20495, 20496, 20497, 53250, 53251, 65538, 65539, 77833, 77834, 77835, 77836, 77837, 77838, 77839, 77840, 77841, 110594, 110595, 122882, 122883], [6, 7, 8, 9, 10, 11, 12, 14, 17, 20, 21, 22, 23, 24, 25, 26, 28, 31]), 61)))
set_option maxRecDepth 100000 in
theorem ik_x298 : ai_inst (ai_T0, ai_cts [(241, ii_x22), (243, ii_x27), (244, ii_x35), (245, ii_x36), (245, ii_x37), (245, ii_x38), (245, ii_x39), (246, ii_x103), (246, ii_x167), (246, ii_x231), (246, ii_x295), (247, ii_x21), (248, ii_x296), (249, ii_x297)], ai_mem ai_inl, ii_x298.2.2.1, ([4098, 4099], []), ai_hds []) 1000000 212 [] ii_x298 = true := by decide +kernel
theorem ic_x298 {l : Launch} {X : fx_X} {Y : fx_Y} {B : fx_B} (he : ai_env X B) : ai_con l X Y B ai_T0 ai_N 212 ii_x298 := ai_case he (fun _ _ _ _ => trivial) ik_x298 ⟨ic_x22 he, ic_x27 he, ic_x35 he, ic_x36 he, ic_x37 he, ic_x38 he, ic_x39 he, ic_x103 he, ic_x167 he, ic_x231 he, ic_x295 he, ic_x21 he, ic_x296 he, ic_x297 he, trivial⟩

def ii_x299 : ai_I := (([.inr (fr 1)], []), ((none, []), (([4098, 4099, 8194, 8196, 8197, 8198, 8199, 20489, 20490, 20491, 20492, 20493, 20494, 20495, 20496, 20497, 53250, 53251, 65538, 65539, 77833, 77834, 77835, 77836, 77837, 77838, 77839, 77840, 77841, 110594, 110595, 122882, 122883], [6, 7, 8, 9, 10, 11, 12, 14, 17, 20, 21, 22, 23, 24, 25, 26, 28, 31]), 62)))
set_option maxRecDepth 100000 in
theorem ik_x299 : ai_inst (ai_T0, ai_cts [(13, ii_x7), (13, ii_x12), (211, ii_x20), (212, ii_x298)], ai_mem ai_inl, ii_x299.2.2.1, ([4098, 4099], []), ai_hds [(28, [((0, (2, 0)), ([(0, (.inr (fr 1), (0, 0))), (1, (.inl (2147483649, 2147483649), (0, 0))), (2, (.inl (2147483648, 2147483648), (0, 0)))], [(4096, (.inr (fr 2), (0, 0))), (4097, (.inr (fr 5), (0, 0))), (4098, (.inl (2147483648, 2147483648), (0, 0))), (4099, (.inl (2147483647, 2147483647), (0, 0)))])), ((0, (2, 0)), ([(0, (.inr (fr 1), (0, 0))), (1, (.inl (2147483648, 2147483649), (0, 0))), (2, (.inl (2147483648, 2147485248), (0, 0)))], [(4096, (.inr (fr 2), (0, 0))), (4097, (.inr (fr 5), (0, 0)))])), ((0, (2, 0)), ([(0, (.inr (fr 1), (0, 0))), (1, (.inl (2147483648, 2147483649), (0, 0))), (2, (.inl (2147483648, 2147485248), (0, 0)))], [(4096, (.inr (fr 2), (0, 0))), (4097, (.inr (fr 19), (0, 0)))]))])]) 1000000 118 [(28, 0)] ii_x299 = true := by decide +kernel
theorem ic_x299 {l : Launch} {X : fx_X} {Y : fx_Y} {B : fx_B} (he : ai_env X B) : ai_con l X Y B ai_T0 ai_N 118 ii_x299 := ai_case he (fun _ _ _ _ => trivial) ik_x299 ⟨ic_x7 he, ic_x12 he, ic_x20 he, ic_x298 he, trivial⟩

def ii_x300 : ai_I := (([.inr (fr 47), .inl (2147483648, 2147483648)], []), ((none, []), (([], [47]), 0)))
set_option maxRecDepth 100000 in
theorem ik_x300 : ai_inst (ai_T0, ai_cts [], ai_mem ai_inl, ii_x300.2.2.1, ([], [47]), ai_hds [(5, [((0, (2, 0)), ([(0, (.inr (fr 47), (0, 0))), (1, (.inl (2147483648, 2147483648), (0, 0))), (2, (.inl (2147483648, 2147484707), (0, 0))), (3, (.inl (2147484672, 2147484672), (0, 0)))], []))])]) 1000000 14 [(5, 0)] ii_x300 = true := by decide +kernel
theorem ic_x300 {l : Launch} {X : fx_X} {Y : fx_Y} {B : fx_B} (he : ai_env X B) : ai_con l X Y B ai_T0 ai_N 14 ii_x300 := ai_case he (fun _ _ _ _ => trivial) ik_x300 trivial

def ii_x301 : ai_I := (([.inr (fr 36)], []), ((none, []), (([], [47]), 1)))
set_option maxRecDepth 100000 in
theorem ik_x301 : ai_inst (ai_T0, ai_cts [(14, ii_x300)], ai_mem ai_inl, ii_x301.2.2.1, ([], []), ai_hds []) 1000000 119 [] ii_x301 = true := by decide +kernel
theorem ic_x301 {l : Launch} {X : fx_X} {Y : fx_Y} {B : fx_B} (he : ai_env X B) : ai_con l X Y B ai_T0 ai_N 119 ii_x301 := ai_case he (fun _ _ _ _ => trivial) ik_x301 ⟨ic_x300 he, trivial⟩

def ii_x302 : ai_I := (([.inr (fr 53)], []), ((none, []), (([], [55]), 0)))
set_option maxRecDepth 100000 in
theorem ik_x302 : ai_inst (ai_T0, ai_cts [], ai_mem ai_inl, ii_x302.2.2.1, ([], [55]), ai_hds [(2, [((0, (1, 0)), ([(0, (.inr (fr 53), (0, 0))), (1, (.inl (2147483648, 2147483651), (0, 0)))], []))])]) 1000000 121 [(2, 0)] ii_x302 = true := by decide +kernel
theorem ic_x302 {l : Launch} {X : fx_X} {Y : fx_Y} {B : fx_B} (he : ai_env X B) : ai_con l X Y B ai_T0 ai_N 121 ii_x302 := ai_case he (fun _ _ _ _ => trivial) ik_x302 trivial

def ii_x303 : ai_I := (([.inr (fr 0)], []), ((some (.inl (2147483647, 2147483655)), []), (([1, 11, 13, 14, 4097, 4098, 4099, 8194, 8195, 8196, 8197, 8198, 8199, 20489, 20490, 20491, 20492, 20493, 20494, 20495, 20496, 20497, 53250, 53251, 65538, 65539, 77833, 77834, 77835, 77836, 77837, 77838, 77839, 77840, 77841, 110594, 110595, 122882, 122883, 135170, 135171, 135172, 200705, 200706, 229382], [6, 7, 8, 9, 10, 11, 12, 14, 17, 20, 21, 22, 23, 24, 25, 26, 28, 31, 34, 35, 47, 55]), 63)))
set_option maxRecDepth 100000 in
theorem ik_x303 : ai_inst (ai_T0, ai_cts [(118, ii_x299), (119, ii_x301), (121, ii_x302)], ai_mem ai_inl, ii_x303.2.2.1, ([1, 11, 13, 14, 4097, 8195, 135170, 135171, 135172, 200705, 200706, 229382], [34, 35]), ai_hds []) 1000000 31 [] ii_x303 = true := by decide +kernel
theorem ic_x303 {l : Launch} {X : fx_X} {Y : fx_Y} {B : fx_B} (he : ai_env X B) : ai_con l X Y B ai_T0 ai_N 31 ii_x303 := ai_case he (fun _ _ _ _ => trivial) ik_x303 ⟨ic_x299 he, ic_x301 he, ic_x302 he, trivial⟩

def ii_x304 : ai_I := (([.inr (fr 0), .inl (0, 4294967295)], []), ((some (.inl (2147483647, 2147485248)), []), (([], []), 0)))
set_option maxRecDepth 100000 in
theorem ik_x304 : ai_inst (ai_T0, ai_cts [], ai_mem ai_inl, ii_x304.2.2.1, ([], []), ai_hds []) 1000000 33 [] ii_x304 = true := by decide +kernel
theorem ic_x304 {l : Launch} {X : fx_X} {Y : fx_Y} {B : fx_B} (he : ai_env X B) : ai_con l X Y B ai_T0 ai_N 33 ii_x304 := ai_case he (fun _ _ _ _ => trivial) ik_x304 trivial

def ii_x305 : ai_I := (([.inr (fr 36)], []), ((none, []), (([], [40, 41, 42]), 2)))
set_option maxRecDepth 100000 in
theorem ik_x305 : ai_inst (ai_T0, ai_cts [], ai_mem ai_inl, ii_x305.2.2.1, ([], [40, 41, 42]), ai_hds [(25, [((0, (2, 0)), ([(0, (.inr (fr 36), (0, 0))), (1, (.inl (2147483649, 2147483649), (0, 0))), (2, (.inl (2147483648, 2147483655), (0, 0)))], [(147466, (.inr fz, (0, 0)))])), ((0, (2, 0)), ([(0, (.inr (fr 36), (0, 0))), (1, (.inl (2147483649, 2147483652), (0, 0))), (2, (.inl (2147483648, 2147483655), (0, 0)))], [(147466, (.inr (fr 19), (0, 0)))])), ((0, (2, 0)), ([(0, (.inr (fr 36), (0, 0))), (1, (.inl (2147483649, 2147483652), (0, 0))), (2, (.inl (2147483648, 2147483655), (0, 0)))], [(147466, (.inr (fr 5), (0, 0)))]))]), (71, [((0, (2, 0)), ([(0, (.inr (fr 36), (0, 0))), (1, (.inl (2147483649, 2147483652), (0, 0))), (2, (.inl (2147483648, 2147483655), (0, 0)))], [(147466, (.inr (fr 19), (0, 0)))])), ((0, (2, 0)), ([(0, (.inr (fr 36), (0, 0))), (1, (.inl (2147483649, 2147483649), (0, 0))), (2, (.inl (2147483648, 2147483655), (0, 0)))], [(147466, (.inr fz, (0, 0)))])), ((0, (2, 0)), ([(0, (.inr (fr 36), (0, 0))), (1, (.inl (2147483649, 2147483652), (0, 0))), (2, (.inl (2147483648, 2147483655), (0, 0)))], [(147466, (.inr (fr 5), (0, 0)))]))]), (82, [((0, (4, 0)), ([(0, (.inr (fr 36), (0, 0))), (1, (.inl (2147483649, 2147483652), (0, 0))), (2, (.inl (2147483648, 2147483654), (1, 2147483648))), (3, (.inl (2147483648, 2147483775), (0, 0))), (4, (.inl (2147483648, 2147483655), (0, 0)))], [(147466, (.inr (fr 19), (0, 0)))])), ((0, (4, 0)), ([(0, (.inr (fr 36), (0, 0))), (1, (.inl (2147483649, 2147483649), (0, 0))), (2, (.inl (2147483648, 2147483654), (1, 2147483648))), (3, (.inl (2147483648, 2147483775), (0, 0))), (4, (.inl (2147483648, 2147483655), (0, 0)))], [(147466, (.inr fz, (0, 0)))])), ((0, (4, 0)), ([(0, (.inr (fr 36), (0, 0))), (1, (.inl (2147483649, 2147483652), (0, 0))), (2, (.inl (2147483648, 2147483654), (1, 2147483648))), (3, (.inl (2147483648, 2147483775), (0, 0))), (4, (.inl (2147483648, 2147483655), (0, 0)))], [(147466, (.inr (fr 5), (0, 0)))]))])]) 1000000 227 [(25, 0), (71, 0), (82, 0)] ii_x305 = true := by decide +kernel
theorem ic_x305 {l : Launch} {X : fx_X} {Y : fx_Y} {B : fx_B} (he : ai_env X B) : ai_con l X Y B ai_T0 ai_N 227 ii_x305 := ai_case he (fun _ _ _ _ => trivial) ik_x305 trivial

def ii_x306 : ai_I := (([.inr (fr 36), .inr (fr 19), .inr (fr 33)], []), ((none, []), (([147466, 151554, 151555, 151556], [38, 39, 40, 41, 42]), 3)))
set_option maxRecDepth 100000 in
theorem ik_x306 : ai_inst (ai_T0, ai_cts [(227, ii_x305)], ai_mem ai_inl, ii_x306.2.2.1, ([147466, 151554, 151555, 151556], [38, 39]), ai_hds []) 1000000 127 [] ii_x306 = true := by decide +kernel
theorem ic_x306 {l : Launch} {X : fx_X} {Y : fx_Y} {B : fx_B} (he : ai_env X B) : ai_con l X Y B ai_T0 ai_N 127 ii_x306 := ai_case he (fun _ _ _ _ => trivial) ik_x306 ⟨ic_x305 he, trivial⟩

def ii_x307 : ai_I := (([.inr (fr 36), .inr (fr 5), .inr (fr 33)], []), ((none, []), (([147466, 151554, 151555, 151556], [38, 39, 40, 41, 42]), 3)))
set_option maxRecDepth 100000 in
theorem ik_x307 : ai_inst (ai_T0, ai_cts [(227, ii_x305)], ai_mem ai_inl, ii_x307.2.2.1, ([147466, 151554, 151555, 151556], [38, 39]), ai_hds []) 1000000 127 [] ii_x307 = true := by decide +kernel
theorem ic_x307 {l : Launch} {X : fx_X} {Y : fx_Y} {B : fx_B} (he : ai_env X B) : ai_con l X Y B ai_T0 ai_N 127 ii_x307 := ai_case he (fun _ _ _ _ => trivial) ik_x307 ⟨ic_x305 he, trivial⟩

def ii_x308 : ai_I := (([.inr (fr 33), .inl (2147483647, 2147483775)], []), ((some (.inl (0, 4294967295)), []), (([], []), 0)))
set_option maxRecDepth 100000 in
theorem ik_x308 : ai_inst (ai_T0, ai_cts [], ai_mem ai_inl, ii_x308.2.2.1, ([], []), ai_hds [(4, [((0, (3, 0)), ([(0, (.inr (fr 33), (0, 0))), (1, (.inl (2147483647, 2147483775), (0, 0))), (2, (.inl (0, 4294967295), (0, 0))), (3, (.inl (2147483648, 2147483655), (0, 0)))], []))])]) 1000000 128 [(4, 0)] ii_x308 = true := by decide +kernel
theorem ic_x308 {l : Launch} {X : fx_X} {Y : fx_Y} {B : fx_B} (he : ai_env X B) : ai_con l X Y B ai_T0 ai_N 128 ii_x308 := ai_case he (fun _ _ _ _ => trivial) ik_x308 trivial

def ii_x309 : ai_I := (([.inr (fr 16), .inr (fr 46)], []), ((some (.inl (0, 4294967295)), []), (([], [18]), 1)))
set_option maxRecDepth 100000 in
theorem ik_x309 : ai_inst (ai_T0, ai_cts [], ai_mem ai_inl, ii_x309.2.2.1, ([], [18]), ai_hds [(4, [((0, (3, 0)), ([(0, (.inr (fr 16), (0, 0))), (1, (.inr (fr 46), (0, 0))), (2, (.inl (2147483648, 2147483688), (0, 0))), (3, (.inl (2147483648, 2147483968), (0, 0)))], []))])]) 1000000 228 [(4, 0)] ii_x309 = true := by decide +kernel
theorem ic_x309 {l : Launch} {X : fx_X} {Y : fx_Y} {B : fx_B} (he : ai_env X B) : ai_con l X Y B ai_T0 ai_N 228 ii_x309 := ai_case he (fun _ _ _ _ => trivial) ik_x309 trivial

def ii_x310 : ai_I := (([.inr (fr 30), .inr (fr 46)], []), ((some (.inl (0, 4294967295)), []), (([], [32]), 1)))
set_option maxRecDepth 100000 in
theorem ik_x310 : ai_inst (ai_T0, ai_cts [], ai_mem ai_inl, ii_x310.2.2.1, ([], [32]), ai_hds [(4, [((0, (3, 0)), ([(0, (.inr (fr 30), (0, 0))), (1, (.inr (fr 46), (0, 0))), (2, (.inl (2147483648, 2147483688), (0, 0))), (3, (.inl (2147483648, 2147483968), (0, 0)))], []))])]) 1000000 228 [(4, 0)] ii_x310 = true := by decide +kernel
theorem ic_x310 {l : Launch} {X : fx_X} {Y : fx_Y} {B : fx_B} (he : ai_env X B) : ai_con l X Y B ai_T0 ai_N 228 ii_x310 := ai_case he (fun _ _ _ _ => trivial) ik_x310 trivial

def ii_x311 : ai_I := (([.inr (fr 36), .inl (0, 4294967295), .inl (0, 4294967295)], []), ((some (.inl (2147483648, 2147483657)), []), (([], [18, 32, 46, 47, 48]), 2)))
set_option maxRecDepth 100000 in
theorem ik_x311 : ai_inst (ai_T0, ai_cts [(228, ii_x309), (228, ii_x310)], ai_mem ai_inl, ii_x311.2.2.1, ([], [46, 47, 48]), ai_hds []) 1000000 129 [] ii_x311 = true := by decide +kernel
theorem ic_x311 {l : Launch} {X : fx_X} {Y : fx_Y} {B : fx_B} (he : ai_env X B) : ai_con l X Y B ai_T0 ai_N 129 ii_x311 := ai_case he (fun _ _ _ _ => trivial) ik_x311 ⟨ic_x309 he, ic_x310 he, trivial⟩

def ii_x312 : ai_I := (([.inr (fr 0), .inl (0, 4294967295), .inl (0, 4294967295)], []), ((some (.inl (0, 4294967295)), []), (([147466, 151554, 151555, 151556], [18, 32, 38, 39, 40, 41, 42, 46, 47, 48]), 4)))
set_option maxRecDepth 100000 in
theorem ik_x312 : ai_inst (ai_T0, ai_cts [(127, ii_x306), (127, ii_x307), (128, ii_x308), (129, ii_x311)], ai_mem ai_inl, ii_x312.2.2.1, ([], []), ai_hds []) 1000000 35 [] ii_x312 = true := by decide +kernel
theorem ic_x312 {l : Launch} {X : fx_X} {Y : fx_Y} {B : fx_B} (he : ai_env X B) : ai_con l X Y B ai_T0 ai_N 35 ii_x312 := ai_case he (fun _ _ _ _ => trivial) ik_x312 ⟨ic_x306 he, ic_x307 he, ic_x308 he, ic_x311 he, trivial⟩

def ii_x313 : ai_I := (([.inr (fr 19), .inl (2147483648, 2147483651)], []), ((some (.inl (2147483648, 2147483775)), []), (([], []), 0)))
set_option maxRecDepth 100000 in
theorem ik_x313 : ai_inst (ai_T0, ai_cts [], ai_mem ai_inl, ii_x313.2.2.1, ([], []), ai_hds [(4, [((0, (3, 0)), ([(0, (.inr (fr 19), (0, 0))), (1, (.inl (2147483648, 2147483651), (0, 0))), (2, (.inl (2147483648, 2147483775), (0, 0))), (3, (.inl (2147483648, 2147483655), (0, 0)))], []))])]) 1000000 134 [(4, 0)] ii_x313 = true := by decide +kernel
theorem ic_x313 {l : Launch} {X : fx_X} {Y : fx_Y} {B : fx_B} (he : ai_env X B) : ai_con l X Y B ai_T0 ai_N 134 ii_x313 := ai_case he (fun _ _ _ _ => trivial) ik_x313 trivial

def ii_x314 : ai_I := (([.inr (fr 5), .inl (2147483648, 2147483651)], []), ((some (.inl (2147483648, 2147483775)), []), (([], []), 0)))
set_option maxRecDepth 100000 in
theorem ik_x314 : ai_inst (ai_T0, ai_cts [], ai_mem ai_inl, ii_x314.2.2.1, ([], []), ai_hds [(4, [((0, (3, 0)), ([(0, (.inr (fr 5), (0, 0))), (1, (.inl (2147483648, 2147483651), (0, 0))), (2, (.inl (2147483648, 2147483775), (0, 0))), (3, (.inl (2147483648, 2147483655), (0, 0)))], []))])]) 1000000 134 [(4, 0)] ii_x314 = true := by decide +kernel
theorem ic_x314 {l : Launch} {X : fx_X} {Y : fx_Y} {B : fx_B} (he : ai_env X B) : ai_con l X Y B ai_T0 ai_N 134 ii_x314 := ai_case he (fun _ _ _ _ => trivial) ik_x314 trivial

def ii_x315 : ai_I := (([.inr (fr 19), .inl (2147483648, 2147483651), .inr (fr 33)], []), ((some (.inl (0, 4294967295)), []), (([], []), 1)))
set_option maxRecDepth 100000 in
theorem ik_x315 : ai_inst (ai_T0, ai_cts [(128, ii_x308), (134, ii_x313)], ai_mem ai_inl, ii_x315.2.2.1, ([], []), ai_hds []) 1000000 135 [] ii_x315 = true := by decide +kernel
theorem ic_x315 {l : Launch} {X : fx_X} {Y : fx_Y} {B : fx_B} (he : ai_env X B) : ai_con l X Y B ai_T0 ai_N 135 ii_x315 := ai_case he (fun _ _ _ _ => trivial) ik_x315 ⟨ic_x308 he, ic_x313 he, trivial⟩

def ii_x316 : ai_I := (([.inr (fr 5), .inl (2147483648, 2147483651), .inr (fr 33)], []), ((some (.inl (0, 4294967295)), []), (([], []), 1)))
set_option maxRecDepth 100000 in
theorem ik_x316 : ai_inst (ai_T0, ai_cts [(128, ii_x308), (134, ii_x314)], ai_mem ai_inl, ii_x316.2.2.1, ([], []), ai_hds []) 1000000 135 [] ii_x316 = true := by decide +kernel
theorem ic_x316 {l : Launch} {X : fx_X} {Y : fx_Y} {B : fx_B} (he : ai_env X B) : ai_con l X Y B ai_T0 ai_N 135 ii_x316 := ai_case he (fun _ _ _ _ => trivial) ik_x316 ⟨ic_x308 he, ic_x314 he, trivial⟩

def ii_x317 : ai_I := (([.inr (fr 0), .inl (0, 4294967295), .inl (0, 4294967295)], []), ((some (.inl (0, 4294967295)), []), (([], []), 2)))
set_option maxRecDepth 100000 in
theorem ik_x317 : ai_inst (ai_T0, ai_cts [(128, ii_x308), (134, ii_x313), (134, ii_x314), (135, ii_x315), (135, ii_x316)], ai_mem ai_inl, ii_x317.2.2.1, ([], []), ai_hds []) 1000000 37 [] ii_x317 = true := by decide +kernel
theorem ic_x317 {l : Launch} {X : fx_X} {Y : fx_Y} {B : fx_B} (he : ai_env X B) : ai_con l X Y B ai_T0 ai_N 37 ii_x317 := ai_case he (fun _ _ _ _ => trivial) ik_x317 ⟨ic_x308 he, ic_x313 he, ic_x314 he, ic_x315 he, ic_x316 he, trivial⟩

def ii_x318 : ai_I := (([.inr (fr 33), .inl (2147483648, 2147483663)], []), ((some (.inl (2147483647, 2147483654)), []), (([], []), 0)))
set_option maxRecDepth 100000 in
theorem ik_x318 : ai_inst (ai_T0, ai_cts [], ai_mem ai_inl, ii_x318.2.2.1, ([], []), ai_hds [(2, [((0, (2, 0)), ([(0, (.inr (fr 33), (0, 0))), (1, (.inl (2147483648, 2147483663), (0, 0))), (2, (.inl (2147483648, 2147483655), (0, 0)))], []))])]) 1000000 140 [(2, 0)] ii_x318 = true := by decide +kernel
theorem ic_x318 {l : Launch} {X : fx_X} {Y : fx_Y} {B : fx_B} (he : ai_env X B) : ai_con l X Y B ai_T0 ai_N 140 ii_x318 := ai_case he (fun _ _ _ _ => trivial) ik_x318 trivial

def ii_x319 : ai_I := (([.inr (fr 0), .inl (0, 4294967295), .inl (0, 4294967295)], []), ((some (.inl (2147483646, 2147483657)), []), (([147466, 151554, 151555, 151556], [18, 32, 38, 39, 40, 41, 42, 46, 47, 48]), 4)))
set_option maxRecDepth 100000 in
theorem ik_x319 : ai_inst (ai_T0, ai_cts [(127, ii_x306), (127, ii_x307), (129, ii_x311), (140, ii_x318)], ai_mem ai_inl, ii_x319.2.2.1, ([], []), ai_hds []) 1000000 39 [] ii_x319 = true := by decide +kernel
theorem ic_x319 {l : Launch} {X : fx_X} {Y : fx_Y} {B : fx_B} (he : ai_env X B) : ai_con l X Y B ai_T0 ai_N 39 ii_x319 := ai_case he (fun _ _ _ _ => trivial) ik_x319 ⟨ic_x306 he, ic_x307 he, ic_x311 he, ic_x318 he, trivial⟩

def ii_x320 : ai_I := (([.inr (fr 33)], []), ((some (.inl (0, 4294967295)), []), (([], []), 1)))
set_option maxRecDepth 100000 in
theorem ik_x320 : ai_inst (ai_T0, ai_cts [(128, ii_x308)], ai_mem ai_inl, ii_x320.2.2.1, ([], []), ai_hds []) 1000000 143 [] ii_x320 = true := by decide +kernel
theorem ic_x320 {l : Launch} {X : fx_X} {Y : fx_Y} {B : fx_B} (he : ai_env X B) : ai_con l X Y B ai_T0 ai_N 143 ii_x320 := ai_case he (fun _ _ _ _ => trivial) ik_x320 ⟨ic_x308 he, trivial⟩

def ii_x321 : ai_I := (([.inr (fr 0)], []), ((some (.inl (0, 4294967295)), []), (([], []), 2)))
set_option maxRecDepth 100000 in
theorem ik_x321 : ai_inst (ai_T0, ai_cts [(143, ii_x320)], ai_mem ai_inl, ii_x321.2.2.1, ([], []), ai_hds []) 1000000 41 [] ii_x321 = true := by decide +kernel
theorem ic_x321 {l : Launch} {X : fx_X} {Y : fx_Y} {B : fx_B} (he : ai_env X B) : ai_con l X Y B ai_T0 ai_N 41 ii_x321 := ai_case he (fun _ _ _ _ => trivial) ik_x321 ⟨ic_x320 he, trivial⟩

def ii_x322 : ai_I := (([.inr (fr 19), .inr (fr 33)], []), ((some (.inl (0, 4294967295)), []), (([], []), 2)))
set_option maxRecDepth 100000 in
theorem ik_x322 : ai_inst (ai_T0, ai_cts [(135, ii_x315)], ai_mem ai_inl, ii_x322.2.2.1, ([], []), ai_hds [(4, [((0, (3, 0)), ([(0, (.inr (fr 19), (0, 0))), (1, (.inr (fr 33), (0, 0))), (2, (.inl (0, 4294967295), (0, 0))), (3, (.inl (2147483648, 2147483652), (0, 0)))], []))])]) 1000000 145 [(4, 0)] ii_x322 = true := by decide +kernel
theorem ic_x322 {l : Launch} {X : fx_X} {Y : fx_Y} {B : fx_B} (he : ai_env X B) : ai_con l X Y B ai_T0 ai_N 145 ii_x322 := ai_case he (fun _ _ _ _ => trivial) ik_x322 ⟨ic_x315 he, trivial⟩

def ii_x323 : ai_I := (([.inr (fr 5), .inr (fr 33)], []), ((some (.inl (0, 4294967295)), []), (([], []), 2)))
set_option maxRecDepth 100000 in
theorem ik_x323 : ai_inst (ai_T0, ai_cts [(135, ii_x316)], ai_mem ai_inl, ii_x323.2.2.1, ([], []), ai_hds [(4, [((0, (3, 0)), ([(0, (.inr (fr 5), (0, 0))), (1, (.inr (fr 33), (0, 0))), (2, (.inl (0, 4294967295), (0, 0))), (3, (.inl (2147483648, 2147483652), (0, 0)))], []))])]) 1000000 145 [(4, 0)] ii_x323 = true := by decide +kernel
theorem ic_x323 {l : Launch} {X : fx_X} {Y : fx_Y} {B : fx_B} (he : ai_env X B) : ai_con l X Y B ai_T0 ai_N 145 ii_x323 := ai_case he (fun _ _ _ _ => trivial) ik_x323 ⟨ic_x316 he, trivial⟩

def ii_x324 : ai_I := (([.inr (fr 0)], []), ((some (.inl (0, 4294967295)), []), (([], []), 3)))
set_option maxRecDepth 100000 in
theorem ik_x324 : ai_inst (ai_T0, ai_cts [(145, ii_x322), (145, ii_x323)], ai_mem ai_inl, ii_x324.2.2.1, ([], []), ai_hds []) 1000000 43 [] ii_x324 = true := by decide +kernel
theorem ic_x324 {l : Launch} {X : fx_X} {Y : fx_Y} {B : fx_B} (he : ai_env X B) : ai_con l X Y B ai_T0 ai_N 43 ii_x324 := ai_case he (fun _ _ _ _ => trivial) ik_x324 ⟨ic_x322 he, ic_x323 he, trivial⟩

def ii_x325 : ai_I := (([.inr (fr 37), .inl (2147483648, 2147483775)], []), ((some (.inl (0, 4294967295)), []), (([], []), 0)))
set_option maxRecDepth 100000 in
theorem ik_x325 : ai_inst (ai_T0, ai_cts [], ai_mem ai_inl, ii_x325.2.2.1, ([], []), ai_hds [(4, [((0, (3, 0)), ([(0, (.inr (fr 37), (0, 0))), (1, (.inl (2147483648, 2147483775), (0, 0))), (2, (.inl (0, 4294967295), (0, 0))), (3, (.inl (2147483648, 2147483655), (0, 0)))], []))])]) 1000000 128 [(4, 0)] ii_x325 = true := by decide +kernel
theorem ic_x325 {l : Launch} {X : fx_X} {Y : fx_Y} {B : fx_B} (he : ai_env X B) : ai_con l X Y B ai_T0 ai_N 128 ii_x325 := ai_case he (fun _ _ _ _ => trivial) ik_x325 trivial

def ii_x326 : ai_I := (([.inr (fr 27), .inr (fr 45)], []), ((some (.inl (0, 4294967295)), []), (([], [29]), 1)))
set_option maxRecDepth 100000 in
theorem ik_x326 : ai_inst (ai_T0, ai_cts [], ai_mem ai_inl, ii_x326.2.2.1, ([], [29]), ai_hds [(4, [((0, (3, 0)), ([(0, (.inr (fr 27), (0, 0))), (1, (.inr (fr 45), (0, 0))), (2, (.inl (2147483648, 2147483688), (0, 0))), (3, (.inl (2147483648, 2147483968), (0, 0)))], []))])]) 1000000 228 [(4, 0)] ii_x326 = true := by decide +kernel
theorem ic_x326 {l : Launch} {X : fx_X} {Y : fx_Y} {B : fx_B} (he : ai_env X B) : ai_con l X Y B ai_T0 ai_N 228 ii_x326 := ai_case he (fun _ _ _ _ => trivial) ik_x326 trivial

def ii_x327 : ai_I := (([.inr (fr 36), .inr (fr 19), .inl (2147483648, 2147483654)], []), ((some (.inl (2147483648, 2147483657)), []), (([], [18, 29, 32, 45, 46, 47, 48]), 3)))
set_option maxRecDepth 100000 in
theorem ik_x327 : ai_inst (ai_T0, ai_cts [(128, ii_x325), (129, ii_x311), (228, ii_x326)], ai_mem ai_inl, ii_x327.2.2.1, ([], [45]), ai_hds []) 1000000 233 [] ii_x327 = true := by decide +kernel
theorem ic_x327 {l : Launch} {X : fx_X} {Y : fx_Y} {B : fx_B} (he : ai_env X B) : ai_con l X Y B ai_T0 ai_N 233 ii_x327 := ai_case he (fun _ _ _ _ => trivial) ik_x327 ⟨ic_x325 he, ic_x311 he, ic_x326 he, trivial⟩

def ii_x328 : ai_I := (([.inr (fr 13), .inr (fr 45)], []), ((some (.inl (0, 4294967295)), []), (([], [15]), 1)))
set_option maxRecDepth 100000 in
theorem ik_x328 : ai_inst (ai_T0, ai_cts [], ai_mem ai_inl, ii_x328.2.2.1, ([], [15]), ai_hds [(4, [((0, (3, 0)), ([(0, (.inr (fr 13), (0, 0))), (1, (.inr (fr 45), (0, 0))), (2, (.inl (2147483648, 2147483688), (0, 0))), (3, (.inl (2147483648, 2147483968), (0, 0)))], []))])]) 1000000 228 [(4, 0)] ii_x328 = true := by decide +kernel
theorem ic_x328 {l : Launch} {X : fx_X} {Y : fx_Y} {B : fx_B} (he : ai_env X B) : ai_con l X Y B ai_T0 ai_N 228 ii_x328 := ai_case he (fun _ _ _ _ => trivial) ik_x328 trivial

def ii_x329 : ai_I := (([.inr (fr 36), .inr (fr 5), .inl (2147483648, 2147483654)], []), ((some (.inl (2147483648, 2147483657)), []), (([], [15, 18, 32, 45, 46, 47, 48]), 3)))
set_option maxRecDepth 100000 in
theorem ik_x329 : ai_inst (ai_T0, ai_cts [(128, ii_x325), (129, ii_x311), (228, ii_x328)], ai_mem ai_inl, ii_x329.2.2.1, ([], [45]), ai_hds []) 1000000 233 [] ii_x329 = true := by decide +kernel
theorem ic_x329 {l : Launch} {X : fx_X} {Y : fx_Y} {B : fx_B} (he : ai_env X B) : ai_con l X Y B ai_T0 ai_N 233 ii_x329 := ai_case he (fun _ _ _ _ => trivial) ik_x329 ⟨ic_x325 he, ic_x311 he, ic_x328 he, trivial⟩

def ii_x330 : ai_I := (([.inr (fr 36)], []), ((some (.inl (2147483648, 2147483775)), []), (([151555], [15, 18, 29, 32, 38, 43, 45, 46, 47, 48]), 4)))
set_option maxRecDepth 100000 in
theorem ik_x330 : ai_inst (ai_T0, ai_cts [(233, ii_x327), (233, ii_x329)], ai_mem ai_inl, ii_x330.2.2.1, ([151555], [38, 43]), ai_hds [(13, [((0, (2, 0)), ([(0, (.inr (fr 36), (0, 0))), (1, (.inl (2147483648, 2147483775), (0, 0))), (2, (.inl (2147483648, 2147483655), (0, 0)))], [(147466, (.inr (fr 19), (0, 0)))])), ((0, (2, 0)), ([(0, (.inr (fr 36), (0, 0))), (1, (.inl (2147483648, 2147483775), (0, 0))), (2, (.inl (2147483648, 2147483655), (0, 0)))], [(147466, (.inr (fr 5), (0, 0)))]))])]) 1000000 148 [(13, 0)] ii_x330 = true := by decide +kernel
theorem ic_x330 {l : Launch} {X : fx_X} {Y : fx_Y} {B : fx_B} (he : ai_env X B) : ai_con l X Y B ai_T0 ai_N 148 ii_x330 := ai_case he (fun _ _ _ _ => trivial) ik_x330 ⟨ic_x327 he, ic_x329 he, trivial⟩

def ii_x331 : ai_I := (([.inr (fr 36)], []), ((some (.inl (2147483648, 2147483775)), []), (([151556], [38]), 1)))
set_option maxRecDepth 100000 in
theorem ik_x331 : ai_inst (ai_T0, ai_cts [], ai_mem ai_inl, ii_x331.2.2.1, ([151556], [38]), ai_hds [(13, [((0, (2, 0)), ([(0, (.inr (fr 36), (0, 0))), (1, (.inl (2147483648, 2147483775), (0, 0))), (2, (.inl (2147483648, 2147483655), (0, 0)))], [(147466, (.inr (fr 19), (0, 0)))])), ((0, (2, 0)), ([(0, (.inr (fr 36), (0, 0))), (1, (.inl (2147483648, 2147483775), (0, 0))), (2, (.inl (2147483648, 2147483655), (0, 0)))], [(147466, (.inr (fr 5), (0, 0)))]))])]) 1000000 149 [(13, 0)] ii_x331 = true := by decide +kernel
theorem ic_x331 {l : Launch} {X : fx_X} {Y : fx_Y} {B : fx_B} (he : ai_env X B) : ai_con l X Y B ai_T0 ai_N 149 ii_x331 := ai_case he (fun _ _ _ _ => trivial) ik_x331 trivial

def ii_x332 : ai_I := (([.inr (fr 0)], []), ((some (.inl (2147483647, 2147483775)), []), (([135170, 135171, 135172, 147466, 151554, 151555, 151556, 200705, 200706], [15, 18, 29, 32, 34, 35, 38, 39, 40, 41, 42, 43, 45, 46, 47, 48, 51, 52]), 5)))
set_option maxRecDepth 100000 in
theorem ik_x332 : ai_inst (ai_T0, ai_cts [(127, ii_x306), (127, ii_x307), (148, ii_x330), (149, ii_x331)], ai_mem ai_inl, ii_x332.2.2.1, ([135170, 135171, 135172, 200705, 200706], [34, 35, 51, 52]), ai_hds []) 1000000 45 [] ii_x332 = true := by decide +kernel
theorem ic_x332 {l : Launch} {X : fx_X} {Y : fx_Y} {B : fx_B} (he : ai_env X B) : ai_con l X Y B ai_T0 ai_N 45 ii_x332 := ai_case he (fun _ _ _ _ => trivial) ik_x332 ⟨ic_x306 he, ic_x307 he, ic_x330 he, ic_x331 he, trivial⟩
