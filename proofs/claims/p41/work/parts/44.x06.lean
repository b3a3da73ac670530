def ii_x224 : ai_I := (([.inr (fr 1), .inr (fr 27), .inl (2147483648, 2147483648)], []), ((some (.inl (2147483648, 2147483649)), []), (([4098, 4099, 8194, 8196, 8197, 8198, 8199, 110594, 110595], [28]), 54)))
set_option maxRecDepth 100000 in
theorem ik_x224 : ai_inst (ai_T0, ai_cts [(240, ii_x19), (246, ii_x223), (247, ii_x21)], ai_mem ai_inl, ii_x224.2.2.1, ([4098, 4099, 110594, 110595], [28]), ai_hds []) 1000000 278 [] ii_x224 = true := by decide +kernel
theorem ic_x224 {l : Launch} {X : fx_X} {Y : fx_Y} {B : fx_B} (he : ai_env X B) : ai_con l X Y B ai_T0 ai_N 278 ii_x224 := ai_case he (fun _ _ _ _ => trivial) ik_x224 ⟨ic_x19 he, ic_x223 he, ic_x21 he, trivial⟩

def ii_x225 : ai_I := (([.inr (fr 1), .inr (fr 27), .inl (2147483653, 2147483653), .inl (2147483648, 2147483648)], []), ((some (.inl (2147483648, 2147483649)), []), (([4098, 4099, 8194, 8196, 8197, 8198, 8199, 110594, 110595], [28]), 55)))
set_option maxRecDepth 100000 in
theorem ik_x225 : ai_inst (ai_T0, ai_cts [(278, ii_x224)], ai_mem ai_inl, ii_x225.2.2.1, ([], []), ai_hds []) 1000000 246 [(67, 0)] ii_x225 = true := by decide +kernel
theorem ic_x225 {l : Launch} {X : fx_X} {Y : fx_Y} {B : fx_B} (he : ai_env X B) : ai_con l X Y B ai_T0 ai_N 246 ii_x225 := ai_case he (fun _ _ _ _ => trivial) ik_x225 ⟨ic_x224 he, trivial⟩

def ii_x226 : ai_I := (([.inr (fr 1), .inr (fr 27), .inl (2147483652, 2147483652), .inl (2147483648, 2147483648)], []), ((some (.inl (2147483648, 2147483649)), []), (([4098, 4099, 8194, 8196, 8197, 8198, 8199, 110594, 110595], [28]), 56)))
set_option maxRecDepth 100000 in
theorem ik_x226 : ai_inst (ai_T0, ai_cts [(240, ii_x19), (246, ii_x225)], ai_mem ai_inl, ii_x226.2.2.1, ([110594], [28]), ai_hds [(67, [((0, (5, 0)), ([(0, (.inr (fr 1), (0, 0))), (1, (.inr (fr 27), (0, 0))), (2, (.inl (2147483652, 2147483652), (0, 0))), (3, (.inl (2147483648, 2147483648), (0, 0))), (4, (.inl (2147483679, 2147483679), (0, 0))), (5, (.inl (2147483648, 2147483679), (0, 0)))], []))])]) 1000000 246 [(67, 0)] ii_x226 = true := by decide +kernel
theorem ic_x226 {l : Launch} {X : fx_X} {Y : fx_Y} {B : fx_B} (he : ai_env X B) : ai_con l X Y B ai_T0 ai_N 246 ii_x226 := ai_case he (fun _ _ _ _ => trivial) ik_x226 ⟨ic_x19 he, ic_x225 he, trivial⟩

def ii_x227 : ai_I := (([.inr (fr 1), .inr (fr 27), .inl (2147483651, 2147483651), .inl (2147483648, 2147483648)], []), ((some (.inl (2147483648, 2147483649)), []), (([4098, 4099, 8194, 8196, 8197, 8198, 8199, 110594, 110595], [28]), 57)))
set_option maxRecDepth 100000 in
theorem ik_x227 : ai_inst (ai_T0, ai_cts [(240, ii_x19), (246, ii_x226)], ai_mem ai_inl, ii_x227.2.2.1, ([110594], [28]), ai_hds [(67, [((0, (5, 0)), ([(0, (.inr (fr 1), (0, 0))), (1, (.inr (fr 27), (0, 0))), (2, (.inl (2147483651, 2147483651), (0, 0))), (3, (.inl (2147483648, 2147483648), (0, 0))), (4, (.inl (2147483679, 2147483679), (0, 0))), (5, (.inl (2147483648, 2147483679), (0, 0)))], []))])]) 1000000 246 [(67, 0)] ii_x227 = true := by decide +kernel
theorem ic_x227 {l : Launch} {X : fx_X} {Y : fx_Y} {B : fx_B} (he : ai_env X B) : ai_con l X Y B ai_T0 ai_N 246 ii_x227 := ai_case he (fun _ _ _ _ => trivial) ik_x227 ⟨ic_x19 he, ic_x226 he, trivial⟩

def ii_x228 : ai_I := (([.inr (fr 1), .inr (fr 27), .inl (2147483648, 2147483648)], []), ((some (.inl (2147483648, 2147483649)), []), (([4098, 4099, 8194, 8196, 8197, 8198, 8199, 110594, 110595], [28]), 52)))
set_option maxRecDepth 100000 in
theorem ik_x228 : ai_inst (ai_T0, ai_cts [(240, ii_x19), (246, ii_x221)], ai_mem ai_inl, ii_x228.2.2.1, ([110594], [28]), ai_hds []) 1000000 279 [] ii_x228 = true := by decide +kernel
theorem ic_x228 {l : Launch} {X : fx_X} {Y : fx_Y} {B : fx_B} (he : ai_env X B) : ai_con l X Y B ai_T0 ai_N 279 ii_x228 := ai_case he (fun _ _ _ _ => trivial) ik_x228 ⟨ic_x19 he, ic_x221 he, trivial⟩

def ii_x229 : ai_I := (([.inr (fr 1), .inr (fr 27), .inl (2147483650, 2147483650), .inl (2147483648, 2147483648)], []), ((some (.inl (2147483648, 2147483649)), []), (([4098, 4099, 8194, 8196, 8197, 8198, 8199, 110594, 110595], [28]), 58)))
set_option maxRecDepth 100000 in
theorem ik_x229 : ai_inst (ai_T0, ai_cts [(240, ii_x19), (246, ii_x227), (279, ii_x228)], ai_mem ai_inl, ii_x229.2.2.1, ([110594], [28]), ai_hds [(67, [((0, (5, 0)), ([(0, (.inr (fr 1), (0, 0))), (1, (.inr (fr 27), (0, 0))), (2, (.inl (2147483650, 2147483650), (0, 0))), (3, (.inl (2147483648, 2147483648), (0, 0))), (4, (.inl (2147483649, 2147483649), (0, 0))), (5, (.inl (2147483648, 2147483649), (0, 0)))], [(4096, (.inr (fr 2), (0, 0)))]))])]) 1000000 246 [(67, 0)] ii_x229 = true := by decide +kernel
theorem ic_x229 {l : Launch} {X : fx_X} {Y : fx_Y} {B : fx_B} (he : ai_env X B) : ai_con l X Y B ai_T0 ai_N 246 ii_x229 := ai_case he (fun _ _ _ _ => trivial) ik_x229 ⟨ic_x19 he, ic_x227 he, ic_x228 he, trivial⟩

def ii_x230 : ai_I := (([.inr (fr 1), .inr (fr 27), .inl (2147483649, 2147483649), .inl (2147483648, 2147483648)], []), ((some (.inl (2147483648, 2147483649)), []), (([4098, 4099, 8194, 8196, 8197, 8198, 8199, 110594, 110595], [28]), 59)))
set_option maxRecDepth 100000 in
theorem ik_x230 : ai_inst (ai_T0, ai_cts [(240, ii_x19), (246, ii_x229)], ai_mem ai_inl, ii_x230.2.2.1, ([110594], [28]), ai_hds [(67, [((0, (5, 0)), ([(0, (.inr (fr 1), (0, 0))), (1, (.inr (fr 27), (0, 0))), (2, (.inl (2147483649, 2147483649), (0, 0))), (3, (.inl (2147483648, 2147483648), (0, 0))), (4, (.inl (2147483679, 2147483679), (0, 0))), (5, (.inl (2147483648, 2147483679), (0, 0)))], []))])]) 1000000 246 [(67, 0)] ii_x230 = true := by decide +kernel
theorem ic_x230 {l : Launch} {X : fx_X} {Y : fx_Y} {B : fx_B} (he : ai_env X B) : ai_con l X Y B ai_T0 ai_N 246 ii_x230 := ai_case he (fun _ _ _ _ => trivial) ik_x230 ⟨ic_x19 he, ic_x229 he, trivial⟩

def ii_x231 : ai_I := (([.inr (fr 1), .inr (fr 27), .inl (2147483648, 2147483648), .inl (2147483648, 2147483648)], []), ((some (.inl (2147483648, 2147483649)), []), (([4098, 4099, 8194, 8196, 8197, 8198, 8199, 110594, 110595], [28]), 60)))
set_option maxRecDepth 100000 in
theorem ik_x231 : ai_inst (ai_T0, ai_cts [(240, ii_x19), (246, ii_x230)], ai_mem ai_inl, ii_x231.2.2.1, ([110594], [28]), ai_hds [(67, [((0, (5, 0)), ([(0, (.inr (fr 1), (0, 0))), (1, (.inr (fr 27), (0, 0))), (2, (.inl (2147483648, 2147483648), (0, 0))), (3, (.inl (2147483648, 2147483648), (0, 0))), (4, (.inl (2147483679, 2147483679), (0, 0))), (5, (.inl (2147483648, 2147483679), (0, 0)))], []))])]) 1000000 246 [(67, 0)] ii_x231 = true := by decide +kernel
theorem ic_x231 {l : Launch} {X : fx_X} {Y : fx_Y} {B : fx_B} (he : ai_env X B) : ai_con l X Y B ai_T0 ai_N 246 ii_x231 := ai_case he (fun _ _ _ _ => trivial) ik_x231 ⟨ic_x19 he, ic_x230 he, trivial⟩

def ii_x232 : ai_I := (([.inr (fr 1), .inr (fr 30), .inl (2147483655, 2147483655)], []), ((some (.inl (2147483648, 2147483649)), []), (([4098, 4099, 8194, 8196, 8197, 8198, 8199, 122882, 122883], [31]), 5)))
set_option maxRecDepth 100000 in
theorem ik_x232 : ai_inst (ai_T0, ai_cts [(240, ii_x19)], ai_mem ai_inl, ii_x232.2.2.1, ([4098, 4099, 122882, 122883], [31]), ai_hds []) 1000000 278 [] ii_x232 = true := by decide +kernel
theorem ic_x232 {l : Launch} {X : fx_X} {Y : fx_Y} {B : fx_B} (he : ai_env X B) : ai_con l X Y B ai_T0 ai_N 278 ii_x232 := ai_case he (fun _ _ _ _ => trivial) ik_x232 ⟨ic_x19 he, trivial⟩

def ii_x233 : ai_I := (([.inr (fr 1), .inr (fr 30), .inl (2147483653, 2147483653), .inl (2147483655, 2147483655)], []), ((some (.inl (2147483648, 2147483649)), []), (([4098, 4099, 8194, 8196, 8197, 8198, 8199, 122882, 122883], [31]), 6)))
set_option maxRecDepth 100000 in
theorem ik_x233 : ai_inst (ai_T0, ai_cts [(278, ii_x232)], ai_mem ai_inl, ii_x233.2.2.1, ([], []), ai_hds []) 1000000 246 [(67, 0)] ii_x233 = true := by decide +kernel
theorem ic_x233 {l : Launch} {X : fx_X} {Y : fx_Y} {B : fx_B} (he : ai_env X B) : ai_con l X Y B ai_T0 ai_N 246 ii_x233 := ai_case he (fun _ _ _ _ => trivial) ik_x233 ⟨ic_x232 he, trivial⟩

def ii_x234 : ai_I := (([.inr (fr 1), .inr (fr 30), .inl (2147483652, 2147483652), .inl (2147483655, 2147483655)], []), ((some (.inl (2147483648, 2147483649)), []), (([4098, 4099, 8194, 8196, 8197, 8198, 8199, 122882, 122883], [31]), 7)))
set_option maxRecDepth 100000 in
theorem ik_x234 : ai_inst (ai_T0, ai_cts [(240, ii_x19), (246, ii_x233)], ai_mem ai_inl, ii_x234.2.2.1, ([122882], [31]), ai_hds [(67, [((0, (5, 0)), ([(0, (.inr (fr 1), (0, 0))), (1, (.inr (fr 30), (0, 0))), (2, (.inl (2147483652, 2147483652), (0, 0))), (3, (.inl (2147483655, 2147483655), (0, 0))), (4, (.inl (2147483679, 2147483679), (0, 0))), (5, (.inl (2147483648, 2147483679), (0, 0)))], []))])]) 1000000 246 [(67, 0)] ii_x234 = true := by decide +kernel
theorem ic_x234 {l : Launch} {X : fx_X} {Y : fx_Y} {B : fx_B} (he : ai_env X B) : ai_con l X Y B ai_T0 ai_N 246 ii_x234 := ai_case he (fun _ _ _ _ => trivial) ik_x234 ⟨ic_x19 he, ic_x233 he, trivial⟩

def ii_x235 : ai_I := (([.inr (fr 1), .inr (fr 30), .inl (2147483651, 2147483651), .inl (2147483655, 2147483655)], []), ((some (.inl (2147483648, 2147483649)), []), (([4098, 4099, 8194, 8196, 8197, 8198, 8199, 122882, 122883], [31]), 8)))
set_option maxRecDepth 100000 in
theorem ik_x235 : ai_inst (ai_T0, ai_cts [(240, ii_x19), (246, ii_x234)], ai_mem ai_inl, ii_x235.2.2.1, ([122882], [31]), ai_hds [(67, [((0, (5, 0)), ([(0, (.inr (fr 1), (0, 0))), (1, (.inr (fr 30), (0, 0))), (2, (.inl (2147483651, 2147483651), (0, 0))), (3, (.inl (2147483655, 2147483655), (0, 0))), (4, (.inl (2147483679, 2147483679), (0, 0))), (5, (.inl (2147483648, 2147483679), (0, 0)))], []))])]) 1000000 246 [(67, 0)] ii_x235 = true := by decide +kernel
theorem ic_x235 {l : Launch} {X : fx_X} {Y : fx_Y} {B : fx_B} (he : ai_env X B) : ai_con l X Y B ai_T0 ai_N 246 ii_x235 := ai_case he (fun _ _ _ _ => trivial) ik_x235 ⟨ic_x19 he, ic_x234 he, trivial⟩

def ii_x236 : ai_I := (([.inr (fr 1), .inr (fr 30), .inl (2147483655, 2147483655)], []), ((some (.inl (2147483648, 2147483648)), []), (([4098, 4099], []), 2)))
set_option maxRecDepth 100000 in
theorem ik_x236 : ai_inst (ai_T0, ai_cts [], ai_mem ai_inl, ii_x236.2.2.1, ([4098, 4099], []), ai_hds []) 1000000 279 [] ii_x236 = true := by decide +kernel
theorem ic_x236 {l : Launch} {X : fx_X} {Y : fx_Y} {B : fx_B} (he : ai_env X B) : ai_con l X Y B ai_T0 ai_N 279 ii_x236 := ai_case he (fun _ _ _ _ => trivial) ik_x236 trivial

def ii_x237 : ai_I := (([.inr (fr 1), .inr (fr 30), .inl (2147483650, 2147483650), .inl (2147483655, 2147483655)], []), ((some (.inl (2147483648, 2147483649)), []), (([4098, 4099, 8194, 8196, 8197, 8198, 8199, 122882, 122883], [31]), 9)))
set_option maxRecDepth 100000 in
theorem ik_x237 : ai_inst (ai_T0, ai_cts [(240, ii_x19), (246, ii_x235), (279, ii_x236)], ai_mem ai_inl, ii_x237.2.2.1, ([122882], [31]), ai_hds [(67, [((0, (5, 0)), ([(0, (.inr (fr 1), (0, 0))), (1, (.inr (fr 30), (0, 0))), (2, (.inl (2147483650, 2147483650), (0, 0))), (3, (.inl (2147483655, 2147483655), (0, 0))), (4, (.inl (2147483649, 2147483649), (0, 0))), (5, (.inl (2147483648, 2147483649), (0, 0)))], [(4096, (.inr (fr 2), (0, 0)))]))])]) 1000000 246 [(67, 0)] ii_x237 = true := by decide +kernel
theorem ic_x237 {l : Launch} {X : fx_X} {Y : fx_Y} {B : fx_B} (he : ai_env X B) : ai_con l X Y B ai_T0 ai_N 246 ii_x237 := ai_case he (fun _ _ _ _ => trivial) ik_x237 ⟨ic_x19 he, ic_x235 he, ic_x236 he, trivial⟩

def ii_x238 : ai_I := (([.inr (fr 1), .inr (fr 30), .inl (2147483649, 2147483649), .inl (2147483655, 2147483655)], []), ((some (.inl (2147483648, 2147483649)), []), (([4098, 4099, 8194, 8196, 8197, 8198, 8199, 122882, 122883], [31]), 10)))
set_option maxRecDepth 100000 in
theorem ik_x238 : ai_inst (ai_T0, ai_cts [(240, ii_x19), (246, ii_x237)], ai_mem ai_inl, ii_x238.2.2.1, ([122882], [31]), ai_hds [(67, [((0, (5, 0)), ([(0, (.inr (fr 1), (0, 0))), (1, (.inr (fr 30), (0, 0))), (2, (.inl (2147483649, 2147483649), (0, 0))), (3, (.inl (2147483655, 2147483655), (0, 0))), (4, (.inl (2147483679, 2147483679), (0, 0))), (5, (.inl (2147483648, 2147483679), (0, 0)))], []))])]) 1000000 246 [(67, 0)] ii_x238 = true := by decide +kernel
theorem ic_x238 {l : Launch} {X : fx_X} {Y : fx_Y} {B : fx_B} (he : ai_env X B) : ai_con l X Y B ai_T0 ai_N 246 ii_x238 := ai_case he (fun _ _ _ _ => trivial) ik_x238 ⟨ic_x19 he, ic_x237 he, trivial⟩

def ii_x239 : ai_I := (([.inr (fr 1), .inr (fr 30), .inl (2147483648, 2147483648), .inl (2147483655, 2147483655)], []), ((some (.inl (2147483648, 2147483649)), []), (([4098, 4099, 8194, 8196, 8197, 8198, 8199, 122882, 122883], [31]), 11)))
set_option maxRecDepth 100000 in
theorem ik_x239 : ai_inst (ai_T0, ai_cts [(240, ii_x19), (246, ii_x238)], ai_mem ai_inl, ii_x239.2.2.1, ([122882], [31]), ai_hds [(67, [((0, (5, 0)), ([(0, (.inr (fr 1), (0, 0))), (1, (.inr (fr 30), (0, 0))), (2, (.inl (2147483648, 2147483648), (0, 0))), (3, (.inl (2147483655, 2147483655), (0, 0))), (4, (.inl (2147483679, 2147483679), (0, 0))), (5, (.inl (2147483648, 2147483679), (0, 0)))], []))])]) 1000000 246 [(67, 0)] ii_x239 = true := by decide +kernel
theorem ic_x239 {l : Launch} {X : fx_X} {Y : fx_Y} {B : fx_B} (he : ai_env X B) : ai_con l X Y B ai_T0 ai_N 246 ii_x239 := ai_case he (fun _ _ _ _ => trivial) ik_x239 ⟨ic_x19 he, ic_x238 he, trivial⟩

def ii_x240 : ai_I := (([.inr (fr 1), .inr (fr 30), .inl (2147483654, 2147483654)], []), ((some (.inl (2147483648, 2147483649)), []), (([4098, 4099, 8194, 8196, 8197, 8198, 8199, 122882, 122883], [31]), 12)))
set_option maxRecDepth 100000 in
theorem ik_x240 : ai_inst (ai_T0, ai_cts [(240, ii_x19), (246, ii_x239), (247, ii_x21)], ai_mem ai_inl, ii_x240.2.2.1, ([4098, 4099, 122882, 122883], [31]), ai_hds []) 1000000 278 [] ii_x240 = true := by decide +kernel
theorem ic_x240 {l : Launch} {X : fx_X} {Y : fx_Y} {B : fx_B} (he : ai_env X B) : ai_con l X Y B ai_T0 ai_N 278 ii_x240 := ai_case he (fun _ _ _ _ => trivial) ik_x240 ⟨ic_x19 he, ic_x239 he, ic_x21 he, trivial⟩

def ii_x241 : ai_I := (([.inr (fr 1), .inr (fr 30), .inl (2147483653, 2147483653), .inl (2147483654, 2147483654)], []), ((some (.inl (2147483648, 2147483649)), []), (([4098, 4099, 8194, 8196, 8197, 8198, 8199, 122882, 122883], [31]), 13)))
set_option maxRecDepth 100000 in
theorem ik_x241 : ai_inst (ai_T0, ai_cts [(278, ii_x240)], ai_mem ai_inl, ii_x241.2.2.1, ([], []), ai_hds []) 1000000 246 [(67, 0)] ii_x241 = true := by decide +kernel
theorem ic_x241 {l : Launch} {X : fx_X} {Y : fx_Y} {B : fx_B} (he : ai_env X B) : ai_con l X Y B ai_T0 ai_N 246 ii_x241 := ai_case he (fun _ _ _ _ => trivial) ik_x241 ⟨ic_x240 he, trivial⟩

def ii_x242 : ai_I := (([.inr (fr 1), .inr (fr 30), .inl (2147483652, 2147483652), .inl (2147483654, 2147483654)], []), ((some (.inl (2147483648, 2147483649)), []), (([4098, 4099, 8194, 8196, 8197, 8198, 8199, 122882, 122883], [31]), 14)))
set_option maxRecDepth 100000 in
theorem ik_x242 : ai_inst (ai_T0, ai_cts [(240, ii_x19), (246, ii_x241)], ai_mem ai_inl, ii_x242.2.2.1, ([122882], [31]), ai_hds [(67, [((0, (5, 0)), ([(0, (.inr (fr 1), (0, 0))), (1, (.inr (fr 30), (0, 0))), (2, (.inl (2147483652, 2147483652), (0, 0))), (3, (.inl (2147483654, 2147483654), (0, 0))), (4, (.inl (2147483679, 2147483679), (0, 0))), (5, (.inl (2147483648, 2147483679), (0, 0)))], []))])]) 1000000 246 [(67, 0)] ii_x242 = true := by decide +kernel
theorem ic_x242 {l : Launch} {X : fx_X} {Y : fx_Y} {B : fx_B} (he : ai_env X B) : ai_con l X Y B ai_T0 ai_N 246 ii_x242 := ai_case he (fun _ _ _ _ => trivial) ik_x242 ⟨ic_x19 he, ic_x241 he, trivial⟩

def ii_x243 : ai_I := (([.inr (fr 1), .inr (fr 30), .inl (2147483651, 2147483651), .inl (2147483654, 2147483654)], []), ((some (.inl (2147483648, 2147483649)), []), (([4098, 4099, 8194, 8196, 8197, 8198, 8199, 122882, 122883], [31]), 15)))
set_option maxRecDepth 100000 in
theorem ik_x243 : ai_inst (ai_T0, ai_cts [(240, ii_x19), (246, ii_x242)], ai_mem ai_inl, ii_x243.2.2.1, ([122882], [31]), ai_hds [(67, [((0, (5, 0)), ([(0, (.inr (fr 1), (0, 0))), (1, (.inr (fr 30), (0, 0))), (2, (.inl (2147483651, 2147483651), (0, 0))), (3, (.inl (2147483654, 2147483654), (0, 0))), (4, (.inl (2147483679, 2147483679), (0, 0))), (5, (.inl (2147483648, 2147483679), (0, 0)))], []))])]) 1000000 246 [(67, 0)] ii_x243 = true := by decide +kernel
theorem ic_x243 {l : Launch} {X : fx_X} {Y : fx_Y} {B : fx_B} (he : ai_env X B) : ai_con l X Y B ai_T0 ai_N 246 ii_x243 := ai_case he (fun _ _ _ _ => trivial) ik_x243 ⟨ic_x19 he, ic_x242 he, trivial⟩

def ii_x244 : ai_I := (([.inr (fr 1), .inr (fr 30), .inl (2147483654, 2147483654)], []), ((some (.inl (2147483648, 2147483649)), []), (([4098, 4099, 8194, 8196, 8197, 8198, 8199, 122882, 122883], [31]), 10)))
set_option maxRecDepth 100000 in
theorem ik_x244 : ai_inst (ai_T0, ai_cts [(240, ii_x19), (246, ii_x237)], ai_mem ai_inl, ii_x244.2.2.1, ([122882], [31]), ai_hds []) 1000000 279 [] ii_x244 = true := by decide +kernel
theorem ic_x244 {l : Launch} {X : fx_X} {Y : fx_Y} {B : fx_B} (he : ai_env X B) : ai_con l X Y B ai_T0 ai_N 279 ii_x244 := ai_case he (fun _ _ _ _ => trivial) ik_x244 ⟨ic_x19 he, ic_x237 he, trivial⟩

def ii_x245 : ai_I := (([.inr (fr 1), .inr (fr 30), .inl (2147483650, 2147483650), .inl (2147483654, 2147483654)], []), ((some (.inl (2147483648, 2147483649)), []), (([4098, 4099, 8194, 8196, 8197, 8198, 8199, 122882, 122883], [31]), 16)))
set_option maxRecDepth 100000 in
theorem ik_x245 : ai_inst (ai_T0, ai_cts [(240, ii_x19), (246, ii_x243), (279, ii_x244)], ai_mem ai_inl, ii_x245.2.2.1, ([122882], [31]), ai_hds [(67, [((0, (5, 0)), ([(0, (.inr (fr 1), (0, 0))), (1, (.inr (fr 30), (0, 0))), (2, (.inl (2147483650, 2147483650), (0, 0))), (3, (.inl (2147483654, 2147483654), (0, 0))), (4, (.inl (2147483649, 2147483649), (0, 0))), (5, (.inl (2147483648, 2147483649), (0, 0)))], [(4096, (.inr (fr 2), (0, 0)))]))])]) 1000000 246 [(67, 0)] ii_x245 = true := by decide +kernel
theorem ic_x245 {l : Launch} {X : fx_X} {Y : fx_Y} {B : fx_B} (he : ai_env X B) : ai_con l X Y B ai_T0 ai_N 246 ii_x245 := ai_case he (fun _ _ _ _ => trivial) ik_x245 ⟨ic_x19 he, ic_x243 he, ic_x244 he, trivial⟩

def ii_x246 : ai_I := (([.inr (fr 1), .inr (fr 30), .inl (2147483649, 2147483649), .inl (2147483654, 2147483654)], []), ((some (.inl (2147483648, 2147483649)), []), (([4098, 4099, 8194, 8196, 8197, 8198, 8199, 122882, 122883], [31]), 17)))
set_option maxRecDepth 100000 in
theorem ik_x246 : ai_inst (ai_T0, ai_cts [(240, ii_x19), (246, ii_x245)], ai_mem ai_inl, ii_x246.2.2.1, ([122882], [31]), ai_hds [(67, [((0, (5, 0)), ([(0, (.inr (fr 1), (0, 0))), (1, (.inr (fr 30), (0, 0))), (2, (.inl (2147483649, 2147483649), (0, 0))), (3, (.inl (2147483654, 2147483654), (0, 0))), (4, (.inl (2147483679, 2147483679), (0, 0))), (5, (.inl (2147483648, 2147483679), (0, 0)))], []))])]) 1000000 246 [(67, 0)] ii_x246 = true := by decide +kernel
theorem ic_x246 {l : Launch} {X : fx_X} {Y : fx_Y} {B : fx_B} (he : ai_env X B) : ai_con l X Y B ai_T0 ai_N 246 ii_x246 := ai_case he (fun _ _ _ _ => trivial) ik_x246 ⟨ic_x19 he, ic_x245 he, trivial⟩

def ii_x247 : ai_I := (([.inr (fr 1), .inr (fr 30), .inl (2147483648, 2147483648), .inl (2147483654, 2147483654)], []), ((some (.inl (2147483648, 2147483649)), []), (([4098, 4099, 8194, 8196, 8197, 8198, 8199, 122882, 122883], [31]), 18)))
set_option maxRecDepth 100000 in
theorem ik_x247 : ai_inst (ai_T0, ai_cts [(240, ii_x19), (246, ii_x246)], ai_mem ai_inl, ii_x247.2.2.1, ([122882], [31]), ai_hds [(67, [((0, (5, 0)), ([(0, (.inr (fr 1), (0, 0))), (1, (.inr (fr 30), (0, 0))), (2, (.inl (2147483648, 2147483648), (0, 0))), (3, (.inl (2147483654, 2147483654), (0, 0))), (4, (.inl (2147483679, 2147483679), (0, 0))), (5, (.inl (2147483648, 2147483679), (0, 0)))], []))])]) 1000000 246 [(67, 0)] ii_x247 = true := by decide +kernel
theorem ic_x247 {l : Launch} {X : fx_X} {Y : fx_Y} {B : fx_B} (he : ai_env X B) : ai_con l X Y B ai_T0 ai_N 246 ii_x247 := ai_case he (fun _ _ _ _ => trivial) ik_x247 ⟨ic_x19 he, ic_x246 he, trivial⟩

def ii_x248 : ai_I := (([.inr (fr 1), .inr (fr 30), .inl (2147483653, 2147483653)], []), ((some (.inl (2147483648, 2147483649)), []), (([4098, 4099, 8194, 8196, 8197, 8198, 8199, 122882, 122883], [31]), 19)))
set_option maxRecDepth 100000 in
theorem ik_x248 : ai_inst (ai_T0, ai_cts [(240, ii_x19), (246, ii_x247), (247, ii_x21)], ai_mem ai_inl, ii_x248.2.2.1, ([4098, 4099, 122882, 122883], [31]), ai_hds []) 1000000 278 [] ii_x248 = true := by decide +kernel
theorem ic_x248 {l : Launch} {X : fx_X} {Y : fx_Y} {B : fx_B} (he : ai_env X B) : ai_con l X Y B ai_T0 ai_N 278 ii_x248 := ai_case he (fun _ _ _ _ => trivial) ik_x248 ⟨ic_x19 he, ic_x247 he, ic_x21 he, trivial⟩

def ii_x249 : ai_I := (([.inr (fr 1), .inr (fr 30), .inl (2147483653, 2147483653), .inl (2147483653, 2147483653)], []), ((some (.inl (2147483648, 2147483649)), []), (([4098, 4099, 8194, 8196, 8197, 8198, 8199, 122882, 122883], [31]), 20)))
set_option maxRecDepth 100000 in
theorem ik_x249 : ai_inst (ai_T0, ai_cts [(278, ii_x248)], ai_mem ai_inl, ii_x249.2.2.1, ([], []), ai_hds []) 1000000 246 [(67, 0)] ii_x249 = true := by decide +kernel
theorem ic_x249 {l : Launch} {X : fx_X} {Y : fx_Y} {B : fx_B} (he : ai_env X B) : ai_con l X Y B ai_T0 ai_N 246 ii_x249 := ai_case he (fun _ _ _ _ => trivial) ik_x249 ⟨ic_x248 he, trivial⟩

def ii_x250 : ai_I := (([.inr (fr 1), .inr (fr 30), .inl (2147483652, 2147483652), .inl (2147483653, 2147483653)], []), ((some (.inl (2147483648, 2147483649)), []), (([4098, 4099, 8194, 8196, 8197, 8198, 8199, 122882, 122883], [31]), 21)))
set_option maxRecDepth 100000 in
theorem ik_x250 : ai_inst (ai_T0, ai_cts [(240, ii_x19), (246, ii_x249)], ai_mem ai_inl, ii_x250.2.2.1, ([122882], [31]), ai_hds [(67, [((0, (5, 0)), ([(0, (.inr (fr 1), (0, 0))), (1, (.inr (fr 30), (0, 0))), (2, (.inl (2147483652, 2147483652), (0, 0))), (3, (.inl (2147483653, 2147483653), (0, 0))), (4, (.inl (2147483679, 2147483679), (0, 0))), (5, (.inl (2147483648, 2147483679), (0, 0)))], []))])]) 1000000 246 [(67, 0)] ii_x250 = true := by decide +kernel
theorem ic_x250 {l : Launch} {X : fx_X} {Y : fx_Y} {B : fx_B} (he : ai_env X B) : ai_con l X Y B ai_T0 ai_N 246 ii_x250 := ai_case he (fun _ _ _ _ => trivial) ik_x250 ⟨ic_x19 he, ic_x249 he, trivial⟩

def ii_x251 : ai_I := (([.inr (fr 1), .inr (fr 30), .inl (2147483651, 2147483651), .inl (2147483653, 2147483653)], []), ((some (.inl (2147483648, 2147483649)), []), (([4098, 4099, 8194, 8196, 8197, 8198, 8199, 122882, 122883], [31]), 22)))
set_option maxRecDepth 100000 in
theorem ik_x251 : ai_inst (ai_T0, ai_cts [(240, ii_x19), (246, ii_x250)], ai_mem ai_inl, ii_x251.2.2.1, ([122882], [31]), ai_hds [(67, [((0, (5, 0)), ([(0, (.inr (fr 1), (0, 0))), (1, (.inr (fr 30), (0, 0))), (2, (.inl (2147483651, 2147483651), (0, 0))), (3, (.inl (2147483653, 2147483653), (0, 0))), (4, (.inl (2147483679, 2147483679), (0, 0))), (5, (.inl (2147483648, 2147483679), (0, 0)))], []))])]) 1000000 246 [(67, 0)] ii_x251 = true := by decide +kernel
theorem ic_x251 {l : Launch} {X : fx_X} {Y : fx_Y} {B : fx_B} (he : ai_env X B) : ai_con l X Y B ai_T0 ai_N 246 ii_x251 := ai_case he (fun _ _ _ _ => trivial) ik_x251 ⟨ic_x19 he, ic_x250 he, trivial⟩

def ii_x252 : ai_I := (([.inr (fr 1), .inr (fr 30), .inl (2147483653, 2147483653)], []), ((some (.inl (2147483648, 2147483649)), []), (([4098, 4099, 8194, 8196, 8197, 8198, 8199, 122882, 122883], [31]), 17)))
set_option maxRecDepth 100000 in
theorem ik_x252 : ai_inst (ai_T0, ai_cts [(240, ii_x19), (246, ii_x245)], ai_mem ai_inl, ii_x252.2.2.1, ([122882], [31]), ai_hds []) 1000000 279 [] ii_x252 = true := by decide +kernel
theorem ic_x252 {l : Launch} {X : fx_X} {Y : fx_Y} {B : fx_B} (he : ai_env X B) : ai_con l X Y B ai_T0 ai_N 279 ii_x252 := ai_case he (fun _ _ _ _ => trivial) ik_x252 ⟨ic_x19 he, ic_x245 he, trivial⟩

def ii_x253 : ai_I := (([.inr (fr 1), .inr (fr 30), .inl (2147483650, 2147483650), .inl (2147483653, 2147483653)], []), ((some (.inl (2147483648, 2147483649)), []), (([4098, 4099, 8194, 8196, 8197, 8198, 8199, 122882, 122883], [31]), 23)))
set_option maxRecDepth 100000 in
theorem ik_x253 : ai_inst (ai_T0, ai_cts [(240, ii_x19), (246, ii_x251), (279, ii_x252)], ai_mem ai_inl, ii_x253.2.2.1, ([122882], [31]), ai_hds [(67, [((0, (5, 0)), ([(0, (.inr (fr 1), (0, 0))), (1, (.inr (fr 30), (0, 0))), (2, (.inl (2147483650, 2147483650), (0, 0))), (3, (.inl (2147483653, 2147483653), (0, 0))), (4, (.inl (2147483649, 2147483649), (0, 0))), (5, (.inl (2147483648, 2147483649), (0, 0)))], [(4096, (.inr (fr 2), (0, 0)))]))])]) 1000000 246 [(67, 0)] ii_x253 = true := by decide +kernel
theorem ic_x253 {l : Launch} {X : fx_X} {Y : fx_Y} {B : fx_B} (he : ai_env X B) : ai_con l X Y B ai_T0 ai_N 246 ii_x253 := ai_case he (fun _ _ _ _ => trivial) ik_x253 ⟨ic_x19 he, ic_x251 he, ic_x252 he, trivial⟩

def ii_x254 : ai_I := (([.inr (fr 1), .inr (fr 30), .inl (2147483649, 2147483649), .inl (2147483653, 2147483653)], []), ((some (.inl (2147483648, 2147483649)), []), (([4098, 4099, 8194, 8196, 8197, 8198, 8199, 122882, 122883], [31]), 24)))
set_option maxRecDepth 100000 in
theorem ik_x254 : ai_inst (ai_T0, ai_cts [(240, ii_x19), (246, ii_x253)], ai_mem ai_inl, ii_x254.2.2.1, ([122882], [31]), ai_hds [(67, [((0, (5, 0)), ([(0, (.inr (fr 1), (0, 0))), (1, (.inr (fr 30), (0, 0))), (2, (.inl (2147483649, 2147483649), (0, 0))), (3, (.inl (2147483653, 2147483653), (0, 0))), (4, (.inl (2147483679, 2147483679), (0, 0))), (5, (.inl (2147483648, 2147483679), (0, 0)))], []))])]) 1000000 246 [(67, 0)] ii_x254 = true := by decide +kernel
theorem ic_x254 {l : Launch} {X : fx_X} {Y : fx_Y} {B : fx_B} (he : ai_env X B) : ai_con l X Y B ai_T0 ai_N 246 ii_x254 := ai_case he (fun _ _ _ _ => trivial) ik_x254 ⟨ic_x19 he, ic_x253 he, trivial⟩

def ii_x255 : ai_I := (([.inr (fr 1), .inr (fr 30), .inl (2147483648, 2147483648), .inl (2147483653, 2147483653)], []), ((some (.inl (2147483648, 2147483649)), []), (([4098, 4099, 8194, 8196, 8197, 8198, 8199, 122882, 122883], [31]), 25)))
set_option maxRecDepth 100000 in
theorem ik_x255 : ai_inst (ai_T0, ai_cts [(240, ii_x19), (246, ii_x254)], ai_mem ai_inl, ii_x255.2.2.1, ([122882], [31]), ai_hds [(67, [((0, (5, 0)), ([(0, (.inr (fr 1), (0, 0))), (1, (.inr (fr 30), (0, 0))), (2, (.inl (2147483648, 2147483648), (0, 0))), (3, (.inl (2147483653, 2147483653), (0, 0))), (4, (.inl (2147483679, 2147483679), (0, 0))), (5, (.inl (2147483648, 2147483679), (0, 0)))], []))])]) 1000000 246 [(67, 0)] ii_x255 = true := by decide +kernel
theorem ic_x255 {l : Launch} {X : fx_X} {Y : fx_Y} {B : fx_B} (he : ai_env X B) : ai_con l X Y B ai_T0 ai_N 246 ii_x255 := ai_case he (fun _ _ _ _ => trivial) ik_x255 ⟨ic_x19 he, ic_x254 he, trivial⟩

def ii_x256 : ai_I := (([.inr (fr 1), .inr (fr 30), .inl (2147483652, 2147483652)], []), ((some (.inl (2147483648, 2147483649)), []), (([4098, 4099, 8194, 8196, 8197, 8198, 8199, 122882, 122883], [31]), 26)))
set_option maxRecDepth 100000 in
theorem ik_x256 : ai_inst (ai_T0, ai_cts [(240, ii_x19), (246, ii_x255), (247, ii_x21)], ai_mem ai_inl, ii_x256.2.2.1, ([4098, 4099, 122882, 122883], [31]), ai_hds []) 1000000 278 [] ii_x256 = true := by decide +kernel
theorem ic_x256 {l : Launch} {X : fx_X} {Y : fx_Y} {B : fx_B} (he : ai_env X B) : ai_con l X Y B ai_T0 ai_N 278 ii_x256 := ai_case he (fun _ _ _ _ => trivial) ik_x256 ⟨ic_x19 he, ic_x255 he, ic_x21 he, trivial⟩

def ii_x257 : ai_I := (([.inr (fr 1), .inr (fr 30), .inl (2147483653, 2147483653), .inl (2147483652, 2147483652)], []), ((some (.inl (2147483648, 2147483649)), []), (([4098, 4099, 8194, 8196, 8197, 8198, 8199, 122882, 122883], [31]), 27)))
set_option maxRecDepth 100000 in
theorem ik_x257 : ai_inst (ai_T0, ai_cts [(278, ii_x256)], ai_mem ai_inl, ii_x257.2.2.1, ([], []), ai_hds []) 1000000 246 [(67, 0)] ii_x257 = true := by decide +kernel
theorem ic_x257 {l : Launch} {X : fx_X} {Y : fx_Y} {B : fx_B} (he : ai_env X B) : ai_con l X Y B ai_T0 ai_N 246 ii_x257 := ai_case he (fun _ _ _ _ => trivial) ik_x257 ⟨ic_x256 he, trivial⟩

def ii_x258 : ai_I := (([.inr (fr 1), .inr (fr 30), .inl (2147483652, 2147483652), .inl (2147483652, 2147483652)], []), ((some (.inl (2147483648, 2147483649)), []), (([4098, 4099, 8194, 8196, 8197, 8198, 8199, 122882, 122883], [31]), 28)))
set_option maxRecDepth 100000 in
theorem ik_x258 : ai_inst (ai_T0, ai_cts [(240, ii_x19), (246, ii_x257)], ai_mem ai_inl, ii_x258.2.2.1, ([122882], [31]), ai_hds [(67, [((0, (5, 0)), ([(0, (.inr (fr 1), (0, 0))), (1, (.inr (fr 30), (0, 0))), (2, (.inl (2147483652, 2147483652), (0, 0))), (3, (.inl (2147483652, 2147483652), (0, 0))), (4, (.inl (2147483679, 2147483679), (0, 0))), (5, (.inl (2147483648, 2147483679), (0, 0)))], []))])]) 1000000 246 [(67, 0)] ii_x258 = true := by decide +kernel
theorem ic_x258 {l : Launch} {X : fx_X} {Y : fx_Y} {B : fx_B} (he : ai_env X B) : ai_con l X Y B ai_T0 ai_N 246 ii_x258 := ai_case he (fun _ _ _ _ => trivial) ik_x258 ⟨ic_x19 he, ic_x257 he, trivial⟩

def ii_x259 : ai_I := (([.inr (fr 1), .inr (fr 30), .inl (2147483651, 2147483651), .inl (2147483652, 2147483652)], []), ((some (.inl (2147483648, 2147483649)), []), (([4098, 4099, 8194, 8196, 8197, 8198, 8199, 122882, 122883], [31]), 29)))
set_option maxRecDepth 100000 in
theorem ik_x259 : ai_inst (ai_T0, ai_cts [(240, ii_x19), (246, ii_x258)], ai_mem ai_inl, ii_x259.2.2.1, ([122882], [31]), ai_hds [(67, [((0, (5, 0)), ([(0, (.inr (fr 1), (0, 0))), (1, (.inr (fr 30), (0, 0))), (2, (.inl (2147483651, 2147483651), (0, 0))), (3, (.inl (2147483652, 2147483652), (0, 0))), (4, (.inl (2147483679, 2147483679), (0, 0))), (5, (.inl (2147483648, 2147483679), (0, 0)))], []))])]) 1000000 246 [(67, 0)] ii_x259 = true := by decide +kernel
theorem ic_x259 {l : Launch} {X : fx_X} {Y : fx_Y} {B : fx_B} (he : ai_env X B) : ai_con l X Y B ai_T0 ai_N 246 ii_x259 := ai_case he (fun _ _ _ _ => trivial) ik_x259 ⟨ic_x19 he, ic_x258 he, trivial⟩
