def ii_x260 : ai_I := (([.inr (fr 1), .inr (fr 30), .inl (2147483652, 2147483652)], []), ((some (.inl (2147483648, 2147483649)), []), (([4098, 4099, 8194, 8196, 8197, 8198, 8199, 122882, 122883], [31]), 24)))
set_option maxRecDepth 100000 in
theorem ik_x260 : ai_inst (ai_T0, ai_cts [(240, ii_x19), (246, ii_x253)], ai_mem ai_inl, ii_x260.2.2.1, ([122882], [31]), ai_hds []) 1000000 279 [] ii_x260 = true := by decide +kernel
theorem ic_x260 {l : Launch} {X : fx_X} {Y : fx_Y} {B : fx_B} (he : ai_env X B) : ai_con l X Y B ai_T0 ai_N 279 ii_x260 := ai_case he (fun _ _ _ _ => trivial) ik_x260 ⟨ic_x19 he, ic_x253 he, trivial⟩

def ii_x261 : ai_I := (([.inr (fr 1), .inr (fr 30), .inl (2147483650, 2147483650), .inl (2147483652, 2147483652)], []), ((some (.inl (2147483648, 2147483649)), []), (([4098, 4099, 8194, 8196, 8197, 8198, 8199, 122882, 122883], [31]), 30)))
set_option maxRecDepth 100000 in
theorem ik_x261 : ai_inst (ai_T0, ai_cts [(240, ii_x19), (246, ii_x259), (279, ii_x260)], ai_mem ai_inl, ii_x261.2.2.1, ([122882], [31]), ai_hds [(67, [((0, (5, 0)), ([(0, (.inr (fr 1), (0, 0))), (1, (.inr (fr 30), (0, 0))), (2, (.inl (2147483650, 2147483650), (0, 0))), (3, (.inl (2147483652, 2147483652), (0, 0))), (4, (.inl (2147483649, 2147483649), (0, 0))), (5, (.inl (2147483648, 2147483649), (0, 0)))], [(4096, (.inr (fr 2), (0, 0)))]))])]) 1000000 246 [(67, 0)] ii_x261 = true := by decide +kernel
theorem ic_x261 {l : Launch} {X : fx_X} {Y : fx_Y} {B : fx_B} (he : ai_env X B) : ai_con l X Y B ai_T0 ai_N 246 ii_x261 := ai_case he (fun _ _ _ _ => trivial) ik_x261 ⟨ic_x19 he, ic_x259 he, ic_x260 he, trivial⟩

def ii_x262 : ai_I := (([.inr (fr 1), .inr (fr 30), .inl (2147483649, 2147483649), .inl (2147483652, 2147483652)], []), ((some (.inl (2147483648, 2147483649)), []), (([4098, 4099, 8194, 8196, 8197, 8198, 8199, 122882, 122883], [31]), 31)))
set_option maxRecDepth 100000 in
theorem ik_x262 : ai_inst (ai_T0, ai_cts [(240, ii_x19), (246, ii_x261)], ai_mem ai_inl, ii_x262.2.2.1, ([122882], [31]), ai_hds [(67, [((0, (5, 0)), ([(0, (.inr (fr 1), (0, 0))), (1, (.inr (fr 30), (0, 0))), (2, (.inl (2147483649, 2147483649), (0, 0))), (3, (.inl (2147483652, 2147483652), (0, 0))), (4, (.inl (2147483679, 2147483679), (0, 0))), (5, (.inl (2147483648, 2147483679), (0, 0)))], []))])]) 1000000 246 [(67, 0)] ii_x262 = true := by decide +kernel
theorem ic_x262 {l : Launch} {X : fx_X} {Y : fx_Y} {B : fx_B} (he : ai_env X B) : ai_con l X Y B ai_T0 ai_N 246 ii_x262 := ai_case he (fun _ _ _ _ => trivial) ik_x262 ⟨ic_x19 he, ic_x261 he, trivial⟩

def ii_x263 : ai_I := (([.inr (fr 1), .inr (fr 30), .inl (2147483648, 2147483648), .inl (2147483652, 2147483652)], []), ((some (.inl (2147483648, 2147483649)), []), (([4098, 4099, 8194, 8196, 8197, 8198, 8199, 122882, 122883], [31]), 32)))
set_option maxRecDepth 100000 in
theorem ik_x263 : ai_inst (ai_T0, ai_cts [(240, ii_x19), (246, ii_x262)], ai_mem ai_inl, ii_x263.2.2.1, ([122882], [31]), ai_hds [(67, [((0, (5, 0)), ([(0, (.inr (fr 1), (0, 0))), (1, (.inr (fr 30), (0, 0))), (2, (.inl (2147483648, 2147483648), (0, 0))), (3, (.inl (2147483652, 2147483652), (0, 0))), (4, (.inl (2147483679, 2147483679), (0, 0))), (5, (.inl (2147483648, 2147483679), (0, 0)))], []))])]) 1000000 246 [(67, 0)] ii_x263 = true := by decide +kernel
theorem ic_x263 {l : Launch} {X : fx_X} {Y : fx_Y} {B : fx_B} (he : ai_env X B) : ai_con l X Y B ai_T0 ai_N 246 ii_x263 := ai_case he (fun _ _ _ _ => trivial) ik_x263 ⟨ic_x19 he, ic_x262 he, trivial⟩

def ii_x264 : ai_I := (([.inr (fr 1), .inr (fr 30), .inl (2147483651, 2147483651)], []), ((some (.inl (2147483648, 2147483649)), []), (([4098, 4099, 8194, 8196, 8197, 8198, 8199, 122882, 122883], [31]), 33)))
set_option maxRecDepth 100000 in
theorem ik_x264 : ai_inst (ai_T0, ai_cts [(240, ii_x19), (246, ii_x263), (247, ii_x21)], ai_mem ai_inl, ii_x264.2.2.1, ([4098, 4099, 122882, 122883], [31]), ai_hds []) 1000000 278 [] ii_x264 = true := by decide +kernel
theorem ic_x264 {l : Launch} {X : fx_X} {Y : fx_Y} {B : fx_B} (he : ai_env X B) : ai_con l X Y B ai_T0 ai_N 278 ii_x264 := ai_case he (fun _ _ _ _ => trivial) ik_x264 ⟨ic_x19 he, ic_x263 he, ic_x21 he, trivial⟩

def ii_x265 : ai_I := (([.inr (fr 1), .inr (fr 30), .inl (2147483653, 2147483653), .inl (2147483651, 2147483651)], []), ((some (.inl (2147483648, 2147483649)), []), (([4098, 4099, 8194, 8196, 8197, 8198, 8199, 122882, 122883], [31]), 34)))
set_option maxRecDepth 100000 in
theorem ik_x265 : ai_inst (ai_T0, ai_cts [(278, ii_x264)], ai_mem ai_inl, ii_x265.2.2.1, ([], []), ai_hds []) 1000000 246 [(67, 0)] ii_x265 = true := by decide +kernel
theorem ic_x265 {l : Launch} {X : fx_X} {Y : fx_Y} {B : fx_B} (he : ai_env X B) : ai_con l X Y B ai_T0 ai_N 246 ii_x265 := ai_case he (fun _ _ _ _ => trivial) ik_x265 ⟨ic_x264 he, trivial⟩

def ii_x266 : ai_I := (([.inr (fr 1), .inr (fr 30), .inl (2147483652, 2147483652), .inl (2147483651, 2147483651)], []), ((some (.inl (2147483648, 2147483649)), []), (([4098, 4099, 8194, 8196, 8197, 8198, 8199, 122882, 122883], [31]), 35)))
set_option maxRecDepth 100000 in
theorem ik_x266 : ai_inst (ai_T0, ai_cts [(240, ii_x19), (246, ii_x265)], ai_mem ai_inl, ii_x266.2.2.1, ([122882], [31]), ai_hds [(67, [((0, (5, 0)), ([(0, (.inr (fr 1), (0, 0))), (1, (.inr (fr 30), (0, 0))), (2, (.inl (2147483652, 2147483652), (0, 0))), (3, (.inl (2147483651, 2147483651), (0, 0))), (4, (.inl (2147483679, 2147483679), (0, 0))), (5, (.inl (2147483648, 2147483679), (0, 0)))], []))])]) 1000000 246 [(67, 0)] ii_x266 = true := by decide +kernel
theorem ic_x266 {l : Launch} {X : fx_X} {Y : fx_Y} {B : fx_B} (he : ai_env X B) : ai_con l X Y B ai_T0 ai_N 246 ii_x266 := ai_case he (fun _ _ _ _ => trivial) ik_x266 ⟨ic_x19 he, ic_x265 he, trivial⟩

def ii_x267 : ai_I := (([.inr (fr 1), .inr (fr 30), .inl (2147483651, 2147483651), .inl (2147483651, 2147483651)], []), ((some (.inl (2147483648, 2147483649)), []), (([4098, 4099, 8194, 8196, 8197, 8198, 8199, 122882, 122883], [31]), 36)))
set_option maxRecDepth 100000 in
theorem ik_x267 : ai_inst (ai_T0, ai_cts [(240, ii_x19), (246, ii_x266)], ai_mem ai_inl, ii_x267.2.2.1, ([122882], [31]), ai_hds [(67, [((0, (5, 0)), ([(0, (.inr (fr 1), (0, 0))), (1, (.inr (fr 30), (0, 0))), (2, (.inl (2147483651, 2147483651), (0, 0))), (3, (.inl (2147483651, 2147483651), (0, 0))), (4, (.inl (2147483679, 2147483679), (0, 0))), (5, (.inl (2147483648, 2147483679), (0, 0)))], []))])]) 1000000 246 [(67, 0)] ii_x267 = true := by decide +kernel
theorem ic_x267 {l : Launch} {X : fx_X} {Y : fx_Y} {B : fx_B} (he : ai_env X B) : ai_con l X Y B ai_T0 ai_N 246 ii_x267 := ai_case he (fun _ _ _ _ => trivial) ik_x267 ⟨ic_x19 he, ic_x266 he, trivial⟩

def ii_x268 : ai_I := (([.inr (fr 1), .inr (fr 30), .inl (2147483651, 2147483651)], []), ((some (.inl (2147483648, 2147483649)), []), (([4098, 4099, 8194, 8196, 8197, 8198, 8199, 122882, 122883], [31]), 31)))
set_option maxRecDepth 100000 in
theorem ik_x268 : ai_inst (ai_T0, ai_cts [(240, ii_x19), (246, ii_x261)], ai_mem ai_inl, ii_x268.2.2.1, ([122882], [31]), ai_hds []) 1000000 279 [] ii_x268 = true := by decide +kernel
theorem ic_x268 {l : Launch} {X : fx_X} {Y : fx_Y} {B : fx_B} (he : ai_env X B) : ai_con l X Y B ai_T0 ai_N 279 ii_x268 := ai_case he (fun _ _ _ _ => trivial) ik_x268 ⟨ic_x19 he, ic_x261 he, trivial⟩

def ii_x269 : ai_I := (([.inr (fr 1), .inr (fr 30), .inl (2147483650, 2147483650), .inl (2147483651, 2147483651)], []), ((some (.inl (2147483648, 2147483649)), []), (([4098, 4099, 8194, 8196, 8197, 8198, 8199, 122882, 122883], [31]), 37)))
set_option maxRecDepth 100000 in
theorem ik_x269 : ai_inst (ai_T0, ai_cts [(240, ii_x19), (246, ii_x267), (279, ii_x268)], ai_mem ai_inl, ii_x269.2.2.1, ([122882], [31]), ai_hds [(67, [((0, (5, 0)), ([(0, (.inr (fr 1), (0, 0))), (1, (.inr (fr 30), (0, 0))), (2, (.inl (2147483650, 2147483650), (0, 0))), (3, (.inl (2147483651, 2147483651), (0, 0))), (4, (.inl (2147483649, 2147483649), (0, 0))), (5, (.inl (2147483648, 2147483649), (0, 0)))], [(4096, (.inr (fr 2), (0, 0)))]))])]) 1000000 246 [(67, 0)] ii_x269 = true := by decide +kernel
theorem ic_x269 {l : Launch} {X : fx_X} {Y : fx_Y} {B : fx_B} (he : ai_env X B) : ai_con l X Y B ai_T0 ai_N 246 ii_x269 := ai_case he (fun _ _ _ _ => trivial) ik_x269 ⟨ic_x19 he, ic_x267 he, ic_x268 he, trivial⟩

def ii_x270 : ai_I := (([.inr (fr 1), .inr (fr 30), .inl (2147483649, 2147483649), .inl (2147483651, 2147483651)], []), ((some (.inl (2147483648, 2147483649)), []), (([4098, 4099, 8194, 8196, 8197, 8198, 8199, 122882, 122883], [31]), 38)))
set_option maxRecDepth 100000 in
theorem ik_x270 : ai_inst (ai_T0, ai_cts [(240, ii_x19), (246, ii_x269)], ai_mem ai_inl, ii_x270.2.2.1, ([122882], [31]), ai_hds [(67, [((0, (5, 0)), ([(0, (.inr (fr 1), (0, 0))), (1, (.inr (fr 30), (0, 0))), (2, (.inl (2147483649, 2147483649), (0, 0))), (3, (.inl (2147483651, 2147483651), (0, 0))), (4, (.inl (2147483679, 2147483679), (0, 0))), (5, (.inl (2147483648, 2147483679), (0, 0)))], []))])]) 1000000 246 [(67, 0)] ii_x270 = true := by decide +kernel
theorem ic_x270 {l : Launch} {X : fx_X} {Y : fx_Y} {B : fx_B} (he : ai_env X B) : ai_con l X Y B ai_T0 ai_N 246 ii_x270 := ai_case he (fun _ _ _ _ => trivial) ik_x270 ⟨ic_x19 he, ic_x269 he, trivial⟩

def ii_x271 : ai_I := (([.inr (fr 1), .inr (fr 30), .inl (2147483648, 2147483648), .inl (2147483651, 2147483651)], []), ((some (.inl (2147483648, 2147483649)), []), (([4098, 4099, 8194, 8196, 8197, 8198, 8199, 122882, 122883], [31]), 39)))
set_option maxRecDepth 100000 in
theorem ik_x271 : ai_inst (ai_T0, ai_cts [(240, ii_x19), (246, ii_x270)], ai_mem ai_inl, ii_x271.2.2.1, ([122882], [31]), ai_hds [(67, [((0, (5, 0)), ([(0, (.inr (fr 1), (0, 0))), (1, (.inr (fr 30), (0, 0))), (2, (.inl (2147483648, 2147483648), (0, 0))), (3, (.inl (2147483651, 2147483651), (0, 0))), (4, (.inl (2147483679, 2147483679), (0, 0))), (5, (.inl (2147483648, 2147483679), (0, 0)))], []))])]) 1000000 246 [(67, 0)] ii_x271 = true := by decide +kernel
theorem ic_x271 {l : Launch} {X : fx_X} {Y : fx_Y} {B : fx_B} (he : ai_env X B) : ai_con l X Y B ai_T0 ai_N 246 ii_x271 := ai_case he (fun _ _ _ _ => trivial) ik_x271 ⟨ic_x19 he, ic_x270 he, trivial⟩

def ii_x272 : ai_I := (([.inr (fr 1), .inr (fr 30), .inl (2147483650, 2147483650)], []), ((some (.inl (2147483648, 2147483649)), []), (([4098, 4099, 8194, 8196, 8197, 8198, 8199, 122882, 122883], [31]), 40)))
set_option maxRecDepth 100000 in
theorem ik_x272 : ai_inst (ai_T0, ai_cts [(240, ii_x19), (246, ii_x271), (247, ii_x21)], ai_mem ai_inl, ii_x272.2.2.1, ([4098, 4099, 122882, 122883], [31]), ai_hds []) 1000000 278 [] ii_x272 = true := by decide +kernel
theorem ic_x272 {l : Launch} {X : fx_X} {Y : fx_Y} {B : fx_B} (he : ai_env X B) : ai_con l X Y B ai_T0 ai_N 278 ii_x272 := ai_case he (fun _ _ _ _ => trivial) ik_x272 ⟨ic_x19 he, ic_x271 he, ic_x21 he, trivial⟩

def ii_x273 : ai_I := (([.inr (fr 1), .inr (fr 30), .inl (2147483653, 2147483653), .inl (2147483650, 2147483650)], []), ((some (.inl (2147483648, 2147483649)), []), (([4098, 4099, 8194, 8196, 8197, 8198, 8199, 122882, 122883], [31]), 41)))
set_option maxRecDepth 100000 in
theorem ik_x273 : ai_inst (ai_T0, ai_cts [(278, ii_x272)], ai_mem ai_inl, ii_x273.2.2.1, ([], []), ai_hds []) 1000000 246 [(67, 0)] ii_x273 = true := by decide +kernel
theorem ic_x273 {l : Launch} {X : fx_X} {Y : fx_Y} {B : fx_B} (he : ai_env X B) : ai_con l X Y B ai_T0 ai_N 246 ii_x273 := ai_case he (fun _ _ _ _ => trivial) ik_x273 ⟨ic_x272 he, trivial⟩

def ii_x274 : ai_I := (([.inr (fr 1), .inr (fr 30), .inl (2147483652, 2147483652), .inl (2147483650, 2147483650)], []), ((some (.inl (2147483648, 2147483649)), []), (([4098, 4099, 8194, 8196, 8197, 8198, 8199, 122882, 122883], [31]), 42)))
set_option maxRecDepth 100000 in
theorem ik_x274 : ai_inst (ai_T0, ai_cts [(240, ii_x19), (246, ii_x273)], ai_mem ai_inl, ii_x274.2.2.1, ([122882], [31]), ai_hds [(67, [((0, (5, 0)), ([(0, (.inr (fr 1), (0, 0))), (1, (.inr (fr 30), (0, 0))), (2, (.inl (2147483652, 2147483652), (0, 0))), (3, (.inl (2147483650, 2147483650), (0, 0))), (4, (.inl (2147483679, 2147483679), (0, 0))), (5, (.inl (2147483648, 2147483679), (0, 0)))], []))])]) 1000000 246 [(67, 0)] ii_x274 = true := by decide +kernel
theorem ic_x274 {l : Launch} {X : fx_X} {Y : fx_Y} {B : fx_B} (he : ai_env X B) : ai_con l X Y B ai_T0 ai_N 246 ii_x274 := ai_case he (fun _ _ _ _ => trivial) ik_x274 ⟨ic_x19 he, ic_x273 he, trivial⟩

def ii_x275 : ai_I := (([.inr (fr 1), .inr (fr 30), .inl (2147483651, 2147483651), .inl (2147483650, 2147483650)], []), ((some (.inl (2147483648, 2147483649)), []), (([4098, 4099, 8194, 8196, 8197, 8198, 8199, 122882, 122883], [31]), 43)))
set_option maxRecDepth 100000 in
theorem ik_x275 : ai_inst (ai_T0, ai_cts [(240, ii_x19), (246, ii_x274)], ai_mem ai_inl, ii_x275.2.2.1, ([122882], [31]), ai_hds [(67, [((0, (5, 0)), ([(0, (.inr (fr 1), (0, 0))), (1, (.inr (fr 30), (0, 0))), (2, (.inl (2147483651, 2147483651), (0, 0))), (3, (.inl (2147483650, 2147483650), (0, 0))), (4, (.inl (2147483679, 2147483679), (0, 0))), (5, (.inl (2147483648, 2147483679), (0, 0)))], []))])]) 1000000 246 [(67, 0)] ii_x275 = true := by decide +kernel
theorem ic_x275 {l : Launch} {X : fx_X} {Y : fx_Y} {B : fx_B} (he : ai_env X B) : ai_con l X Y B ai_T0 ai_N 246 ii_x275 := ai_case he (fun _ _ _ _ => trivial) ik_x275 ⟨ic_x19 he, ic_x274 he, trivial⟩

def ii_x276 : ai_I := (([.inr (fr 1), .inr (fr 30), .inl (2147483650, 2147483650)], []), ((some (.inl (2147483648, 2147483649)), []), (([4098, 4099, 8194, 8196, 8197, 8198, 8199, 122882, 122883], [31]), 38)))
set_option maxRecDepth 100000 in
theorem ik_x276 : ai_inst (ai_T0, ai_cts [(240, ii_x19), (246, ii_x269)], ai_mem ai_inl, ii_x276.2.2.1, ([122882], [31]), ai_hds []) 1000000 279 [] ii_x276 = true := by decide +kernel
theorem ic_x276 {l : Launch} {X : fx_X} {Y : fx_Y} {B : fx_B} (he : ai_env X B) : ai_con l X Y B ai_T0 ai_N 279 ii_x276 := ai_case he (fun _ _ _ _ => trivial) ik_x276 ⟨ic_x19 he, ic_x269 he, trivial⟩

def ii_x277 : ai_I := (([.inr (fr 1), .inr (fr 30), .inl (2147483650, 2147483650), .inl (2147483650, 2147483650)], []), ((some (.inl (2147483648, 2147483649)), []), (([4098, 4099, 8194, 8196, 8197, 8198, 8199, 122882, 122883], [31]), 44)))
set_option maxRecDepth 100000 in
theorem ik_x277 : ai_inst (ai_T0, ai_cts [(240, ii_x19), (246, ii_x275), (279, ii_x276)], ai_mem ai_inl, ii_x277.2.2.1, ([122882], [31]), ai_hds [(67, [((0, (5, 0)), ([(0, (.inr (fr 1), (0, 0))), (1, (.inr (fr 30), (0, 0))), (2, (.inl (2147483650, 2147483650), (0, 0))), (3, (.inl (2147483650, 2147483650), (0, 0))), (4, (.inl (2147483649, 2147483649), (0, 0))), (5, (.inl (2147483648, 2147483649), (0, 0)))], [(4096, (.inr (fr 2), (0, 0)))]))])]) 1000000 246 [(67, 0)] ii_x277 = true := by decide +kernel
theorem ic_x277 {l : Launch} {X : fx_X} {Y : fx_Y} {B : fx_B} (he : ai_env X B) : ai_con l X Y B ai_T0 ai_N 246 ii_x277 := ai_case he (fun _ _ _ _ => trivial) ik_x277 ⟨ic_x19 he, ic_x275 he, ic_x276 he, trivial⟩

def ii_x278 : ai_I := (([.inr (fr 1), .inr (fr 30), .inl (2147483649, 2147483649), .inl (2147483650, 2147483650)], []), ((some (.inl (2147483648, 2147483649)), []), (([4098, 4099, 8194, 8196, 8197, 8198, 8199, 122882, 122883], [31]), 45)))
set_option maxRecDepth 100000 in
theorem ik_x278 : ai_inst (ai_T0, ai_cts [(240, ii_x19), (246, ii_x277)], ai_mem ai_inl, ii_x278.2.2.1, ([122882], [31]), ai_hds [(67, [((0, (5, 0)), ([(0, (.inr (fr 1), (0, 0))), (1, (.inr (fr 30), (0, 0))), (2, (.inl (2147483649, 2147483649), (0, 0))), (3, (.inl (2147483650, 2147483650), (0, 0))), (4, (.inl (2147483679, 2147483679), (0, 0))), (5, (.inl (2147483648, 2147483679), (0, 0)))], []))])]) 1000000 246 [(67, 0)] ii_x278 = true := by decide +kernel
theorem ic_x278 {l : Launch} {X : fx_X} {Y : fx_Y} {B : fx_B} (he : ai_env X B) : ai_con l X Y B ai_T0 ai_N 246 ii_x278 := ai_case he (fun _ _ _ _ => trivial) ik_x278 ⟨ic_x19 he, ic_x277 he, trivial⟩

def ii_x279 : ai_I := (([.inr (fr 1), .inr (fr 30), .inl (2147483648, 2147483648), .inl (2147483650, 2147483650)], []), ((some (.inl (2147483648, 2147483649)), []), (([4098, 4099, 8194, 8196, 8197, 8198, 8199, 122882, 122883], [31]), 46)))
set_option maxRecDepth 100000 in
theorem ik_x279 : ai_inst (ai_T0, ai_cts [(240, ii_x19), (246, ii_x278)], ai_mem ai_inl, ii_x279.2.2.1, ([122882], [31]), ai_hds [(67, [((0, (5, 0)), ([(0, (.inr (fr 1), (0, 0))), (1, (.inr (fr 30), (0, 0))), (2, (.inl (2147483648, 2147483648), (0, 0))), (3, (.inl (2147483650, 2147483650), (0, 0))), (4, (.inl (2147483679, 2147483679), (0, 0))), (5, (.inl (2147483648, 2147483679), (0, 0)))], []))])]) 1000000 246 [(67, 0)] ii_x279 = true := by decide +kernel
theorem ic_x279 {l : Launch} {X : fx_X} {Y : fx_Y} {B : fx_B} (he : ai_env X B) : ai_con l X Y B ai_T0 ai_N 246 ii_x279 := ai_case he (fun _ _ _ _ => trivial) ik_x279 ⟨ic_x19 he, ic_x278 he, trivial⟩

def ii_x280 : ai_I := (([.inr (fr 1), .inr (fr 30), .inl (2147483649, 2147483649)], []), ((some (.inl (2147483648, 2147483649)), []), (([4098, 4099, 8194, 8196, 8197, 8198, 8199, 122882, 122883], [31]), 47)))
set_option maxRecDepth 100000 in
theorem ik_x280 : ai_inst (ai_T0, ai_cts [(240, ii_x19), (246, ii_x279), (247, ii_x21)], ai_mem ai_inl, ii_x280.2.2.1, ([4098, 4099, 122882, 122883], [31]), ai_hds []) 1000000 278 [] ii_x280 = true := by decide +kernel
theorem ic_x280 {l : Launch} {X : fx_X} {Y : fx_Y} {B : fx_B} (he : ai_env X B) : ai_con l X Y B ai_T0 ai_N 278 ii_x280 := ai_case he (fun _ _ _ _ => trivial) ik_x280 ⟨ic_x19 he, ic_x279 he, ic_x21 he, trivial⟩

def ii_x281 : ai_I := (([.inr (fr 1), .inr (fr 30), .inl (2147483653, 2147483653), .inl (2147483649, 2147483649)], []), ((some (.inl (2147483648, 2147483649)), []), (([4098, 4099, 8194, 8196, 8197, 8198, 8199, 122882, 122883], [31]), 48)))
set_option maxRecDepth 100000 in
theorem ik_x281 : ai_inst (ai_T0, ai_cts [(278, ii_x280)], ai_mem ai_inl, ii_x281.2.2.1, ([], []), ai_hds []) 1000000 246 [(67, 0)] ii_x281 = true := by decide +kernel
theorem ic_x281 {l : Launch} {X : fx_X} {Y : fx_Y} {B : fx_B} (he : ai_env X B) : ai_con l X Y B ai_T0 ai_N 246 ii_x281 := ai_case he (fun _ _ _ _ => trivial) ik_x281 ⟨ic_x280 he, trivial⟩

def ii_x282 : ai_I := (([.inr (fr 1), .inr (fr 30), .inl (2147483652, 2147483652), .inl (2147483649, 2147483649)], []), ((some (.inl (2147483648, 2147483649)), []), (([4098, 4099, 8194, 8196, 8197, 8198, 8199, 122882, 122883], [31]), 49)))
set_option maxRecDepth 100000 in
theorem ik_x282 : ai_inst (ai_T0, ai_cts [(240, ii_x19), (246, ii_x281)], ai_mem ai_inl, ii_x282.2.2.1, ([122882], [31]), ai_hds [(67, [((0, (5, 0)), ([(0, (.inr (fr 1), (0, 0))), (1, (.inr (fr 30), (0, 0))), (2, (.inl (2147483652, 2147483652), (0, 0))), (3, (.inl (2147483649, 2147483649), (0, 0))), (4, (.inl (2147483679, 2147483679), (0, 0))), (5, (.inl (2147483648, 2147483679), (0, 0)))], []))])]) 1000000 246 [(67, 0)] ii_x282 = true := by decide +kernel
theorem ic_x282 {l : Launch} {X : fx_X} {Y : fx_Y} {B : fx_B} (he : ai_env X B) : ai_con l X Y B ai_T0 ai_N 246 ii_x282 := ai_case he (fun _ _ _ _ => trivial) ik_x282 ⟨ic_x19 he, ic_x281 he, trivial⟩

def ii_x283 : ai_I := (([.inr (fr 1), .inr (fr 30), .inl (2147483651, 2147483651), .inl (2147483649, 2147483649)], []), ((some (.inl (2147483648, 2147483649)), []), (([4098, 4099, 8194, 8196, 8197, 8198, 8199, 122882, 122883], [31]), 50)))
set_option maxRecDepth 100000 in
theorem ik_x283 : ai_inst (ai_T0, ai_cts [(240, ii_x19), (246, ii_x282)], ai_mem ai_inl, ii_x283.2.2.1, ([122882], [31]), ai_hds [(67, [((0, (5, 0)), ([(0, (.inr (fr 1), (0, 0))), (1, (.inr (fr 30), (0, 0))), (2, (.inl (2147483651, 2147483651), (0, 0))), (3, (.inl (2147483649, 2147483649), (0, 0))), (4, (.inl (2147483679, 2147483679), (0, 0))), (5, (.inl (2147483648, 2147483679), (0, 0)))], []))])]) 1000000 246 [(67, 0)] ii_x283 = true := by decide +kernel
theorem ic_x283 {l : Launch} {X : fx_X} {Y : fx_Y} {B : fx_B} (he : ai_env X B) : ai_con l X Y B ai_T0 ai_N 246 ii_x283 := ai_case he (fun _ _ _ _ => trivial) ik_x283 ⟨ic_x19 he, ic_x282 he, trivial⟩

def ii_x284 : ai_I := (([.inr (fr 1), .inr (fr 30), .inl (2147483649, 2147483649)], []), ((some (.inl (2147483648, 2147483649)), []), (([4098, 4099, 8194, 8196, 8197, 8198, 8199, 122882, 122883], [31]), 45)))
set_option maxRecDepth 100000 in
theorem ik_x284 : ai_inst (ai_T0, ai_cts [(240, ii_x19), (246, ii_x277)], ai_mem ai_inl, ii_x284.2.2.1, ([122882], [31]), ai_hds []) 1000000 279 [] ii_x284 = true := by decide +kernel
theorem ic_x284 {l : Launch} {X : fx_X} {Y : fx_Y} {B : fx_B} (he : ai_env X B) : ai_con l X Y B ai_T0 ai_N 279 ii_x284 := ai_case he (fun _ _ _ _ => trivial) ik_x284 ⟨ic_x19 he, ic_x277 he, trivial⟩

def ii_x285 : ai_I := (([.inr (fr 1), .inr (fr 30), .inl (2147483650, 2147483650), .inl (2147483649, 2147483649)], []), ((some (.inl (2147483648, 2147483649)), []), (([4098, 4099, 8194, 8196, 8197, 8198, 8199, 122882, 122883], [31]), 51)))
set_option maxRecDepth 100000 in
theorem ik_x285 : ai_inst (ai_T0, ai_cts [(240, ii_x19), (246, ii_x283), (279, ii_x284)], ai_mem ai_inl, ii_x285.2.2.1, ([122882], [31]), ai_hds [(67, [((0, (5, 0)), ([(0, (.inr (fr 1), (0, 0))), (1, (.inr (fr 30), (0, 0))), (2, (.inl (2147483650, 2147483650), (0, 0))), (3, (.inl (2147483649, 2147483649), (0, 0))), (4, (.inl (2147483649, 2147483649), (0, 0))), (5, (.inl (2147483648, 2147483649), (0, 0)))], [(4096, (.inr (fr 2), (0, 0)))]))])]) 1000000 246 [(67, 0)] ii_x285 = true := by decide +kernel
theorem ic_x285 {l : Launch} {X : fx_X} {Y : fx_Y} {B : fx_B} (he : ai_env X B) : ai_con l X Y B ai_T0 ai_N 246 ii_x285 := ai_case he (fun _ _ _ _ => trivial) ik_x285 ⟨ic_x19 he, ic_x283 he, ic_x284 he, trivial⟩

def ii_x286 : ai_I := (([.inr (fr 1), .inr (fr 30), .inl (2147483649, 2147483649), .inl (2147483649, 2147483649)], []), ((some (.inl (2147483648, 2147483649)), []), (([4098, 4099, 8194, 8196, 8197, 8198, 8199, 122882, 122883], [31]), 52)))
set_option maxRecDepth 100000 in
theorem ik_x286 : ai_inst (ai_T0, ai_cts [(240, ii_x19), (246, ii_x285)], ai_mem ai_inl, ii_x286.2.2.1, ([122882], [31]), ai_hds [(67, [((0, (5, 0)), ([(0, (.inr (fr 1), (0, 0))), (1, (.inr (fr 30), (0, 0))), (2, (.inl (2147483649, 2147483649), (0, 0))), (3, (.inl (2147483649, 2147483649), (0, 0))), (4, (.inl (2147483679, 2147483679), (0, 0))), (5, (.inl (2147483648, 2147483679), (0, 0)))], []))])]) 1000000 246 [(67, 0)] ii_x286 = true := by decide +kernel
theorem ic_x286 {l : Launch} {X : fx_X} {Y : fx_Y} {B : fx_B} (he : ai_env X B) : ai_con l X Y B ai_T0 ai_N 246 ii_x286 := ai_case he (fun _ _ _ _ => trivial) ik_x286 ⟨ic_x19 he, ic_x285 he, trivial⟩

def ii_x287 : ai_I := (([.inr (fr 1), .inr (fr 30), .inl (2147483648, 2147483648), .inl (2147483649, 2147483649)], []), ((some (.inl (2147483648, 2147483649)), []), (([4098, 4099, 8194, 8196, 8197, 8198, 8199, 122882, 122883], [31]), 53)))
set_option maxRecDepth 100000 in
theorem ik_x287 : ai_inst (ai_T0, ai_cts [(240, ii_x19), (246, ii_x286)], ai_mem ai_inl, ii_x287.2.2.1, ([122882], [31]), ai_hds [(67, [((0, (5, 0)), ([(0, (.inr (fr 1), (0, 0))), (1, (.inr (fr 30), (0, 0))), (2, (.inl (2147483648, 2147483648), (0, 0))), (3, (.inl (2147483649, 2147483649), (0, 0))), (4, (.inl (2147483679, 2147483679), (0, 0))), (5, (.inl (2147483648, 2147483679), (0, 0)))], []))])]) 1000000 246 [(67, 0)] ii_x287 = true := by decide +kernel
theorem ic_x287 {l : Launch} {X : fx_X} {Y : fx_Y} {B : fx_B} (he : ai_env X B) : ai_con l X Y B ai_T0 ai_N 246 ii_x287 := ai_case he (fun _ _ _ _ => trivial) ik_x287 ⟨ic_x19 he, ic_x286 he, trivial⟩

def ii_x288 : ai_I := (([.inr (fr 1), .inr (fr 30), .inl (2147483648, 2147483648)], []), ((some (.inl (2147483648, 2147483649)), []), (([4098, 4099, 8194, 8196, 8197, 8198, 8199, 122882, 122883], [31]), 54)))
set_option maxRecDepth 100000 in
theorem ik_x288 : ai_inst (ai_T0, ai_cts [(240, ii_x19), (246, ii_x287), (247, ii_x21)], ai_mem ai_inl, ii_x288.2.2.1, ([4098, 4099, 122882, 122883], [31]), ai_hds []) 1000000 278 [] ii_x288 = true := by decide +kernel
theorem ic_x288 {l : Launch} {X : fx_X} {Y : fx_Y} {B : fx_B} (he : ai_env X B) : ai_con l X Y B ai_T0 ai_N 278 ii_x288 := ai_case he (fun _ _ _ _ => trivial) ik_x288 ⟨ic_x19 he, ic_x287 he, ic_x21 he, trivial⟩

def ii_x289 : ai_I := (([.inr (fr 1), .inr (fr 30), .inl (2147483653, 2147483653), .inl (2147483648, 2147483648)], []), ((some (.inl (2147483648, 2147483649)), []), (([4098, 4099, 8194, 8196, 8197, 8198, 8199, 122882, 122883], [31]), 55)))
set_option maxRecDepth 100000 in
theorem ik_x289 : ai_inst (ai_T0, ai_cts [(278, ii_x288)], ai_mem ai_inl, ii_x289.2.2.1, ([], []), ai_hds []) 1000000 246 [(67, 0)] ii_x289 = true := by decide +kernel
theorem ic_x289 {l : Launch} {X : fx_X} {Y : fx_Y} {B : fx_B} (he : ai_env X B) : ai_con l X Y B ai_T0 ai_N 246 ii_x289 := ai_case he (fun _ _ _ _ => trivial) ik_x289 ⟨ic_x288 he, trivial⟩

def ii_x290 : ai_I := (([.inr (fr 1), .inr (fr 30), .inl (2147483652, 2147483652), .inl (2147483648, 2147483648)], []), ((some (.inl (2147483648, 2147483649)), []), (([4098, 4099, 8194, 8196, 8197, 8198, 8199, 122882, 122883], [31]), 56)))
set_option maxRecDepth 100000 in
theorem ik_x290 : ai_inst (ai_T0, ai_cts [(240, ii_x19), (246, ii_x289)], ai_mem ai_inl, ii_x290.2.2.1, ([122882], [31]), ai_hds [(67, [((0, (5, 0)), ([(0, (.inr (fr 1), (0, 0))), (1, (.inr (fr 30), (0, 0))), (2, (.inl (2147483652, 2147483652), (0, 0))), (3, (.inl (2147483648, 2147483648), (0, 0))), (4, (.inl (2147483679, 2147483679), (0, 0))), (5, (.inl (2147483648, 2147483679), (0, 0)))], []))])]) 1000000 246 [(67, 0)] ii_x290 = true := by decide +kernel
theorem ic_x290 {l : Launch} {X : fx_X} {Y : fx_Y} {B : fx_B} (he : ai_env X B) : ai_con l X Y B ai_T0 ai_N 246 ii_x290 := ai_case he (fun _ _ _ _ => trivial) ik_x290 ⟨ic_x19 he, ic_x289 he, trivial⟩

def ii_x291 : ai_I := (([.inr (fr 1), .inr (fr 30), .inl (2147483651, 2147483651), .inl (2147483648, 2147483648)], []), ((some (.inl (2147483648, 2147483649)), []), (([4098, 4099, 8194, 8196, 8197, 8198, 8199, 122882, 122883], [31]), 57)))
set_option maxRecDepth 100000 in
theorem ik_x291 : ai_inst (ai_T0, ai_cts [(240, ii_x19), (246, ii_x290)], ai_mem ai_inl, ii_x291.2.2.1, ([122882], [31]), ai_hds [(67, [((0, (5, 0)), ([(0, (.inr (fr 1), (0, 0))), (1, (.inr (fr 30), (0, 0))), (2, (.inl (2147483651, 2147483651), (0, 0))), (3, (.inl (2147483648, 2147483648), (0, 0))), (4, (.inl (2147483679, 2147483679), (0, 0))), (5, (.inl (2147483648, 2147483679), (0, 0)))], []))])]) 1000000 246 [(67, 0)] ii_x291 = true := by decide +kernel
theorem ic_x291 {l : Launch} {X : fx_X} {Y : fx_Y} {B : fx_B} (he : ai_env X B) : ai_con l X Y B ai_T0 ai_N 246 ii_x291 := ai_case he (fun _ _ _ _ => trivial) ik_x291 ⟨ic_x19 he, ic_x290 he, trivial⟩

def ii_x292 : ai_I := (([.inr (fr 1), .inr (fr 30), .inl (2147483648, 2147483648)], []), ((some (.inl (2147483648, 2147483649)), []), (([4098, 4099, 8194, 8196, 8197, 8198, 8199, 122882, 122883], [31]), 52)))
set_option maxRecDepth 100000 in
theorem ik_x292 : ai_inst (ai_T0, ai_cts [(240, ii_x19), (246, ii_x285)], ai_mem ai_inl, ii_x292.2.2.1, ([122882], [31]), ai_hds []) 1000000 279 [] ii_x292 = true := by decide +kernel
theorem ic_x292 {l : Launch} {X : fx_X} {Y : fx_Y} {B : fx_B} (he : ai_env X B) : ai_con l X Y B ai_T0 ai_N 279 ii_x292 := ai_case he (fun _ _ _ _ => trivial) ik_x292 ⟨ic_x19 he, ic_x285 he, trivial⟩

def ii_x293 : ai_I := (([.inr (fr 1), .inr (fr 30), .inl (2147483650, 2147483650), .inl (2147483648, 2147483648)], []), ((some (.inl (2147483648, 2147483649)), []), (([4098, 4099, 8194, 8196, 8197, 8198, 8199, 122882, 122883], [31]), 58)))
set_option maxRecDepth 100000 in
theorem ik_x293 : ai_inst (ai_T0, ai_cts [(240, ii_x19), (246, ii_x291), (279, ii_x292)], ai_mem ai_inl, ii_x293.2.2.1, ([122882], [31]), ai_hds [(67, [((0, (5, 0)), ([(0, (.inr (fr 1), (0, 0))), (1, (.inr (fr 30), (0, 0))), (2, (.inl (2147483650, 2147483650), (0, 0))), (3, (.inl (2147483648, 2147483648), (0, 0))), (4, (.inl (2147483649, 2147483649), (0, 0))), (5, (.inl (2147483648, 2147483649), (0, 0)))], [(4096, (.inr (fr 2), (0, 0)))]))])]) 1000000 246 [(67, 0)] ii_x293 = true := by decide +kernel
theorem ic_x293 {l : Launch} {X : fx_X} {Y : fx_Y} {B : fx_B} (he : ai_env X B) : ai_con l X Y B ai_T0 ai_N 246 ii_x293 := ai_case he (fun _ _ _ _ => trivial) ik_x293 ⟨ic_x19 he, ic_x291 he, ic_x292 he, trivial⟩

def ii_x294 : ai_I := (([.inr (fr 1), .inr (fr 30), .inl (2147483649, 2147483649), .inl (2147483648, 2147483648)], []), ((some (.inl (2147483648, 2147483649)), []), (([4098, 4099, 8194, 8196, 8197, 8198, 8199, 122882, 122883], [31]), 59)))
set_option maxRecDepth 100000 in
theorem ik_x294 : ai_inst (ai_T0, ai_cts [(240, ii_x19), (246, ii_x293)], ai_mem ai_inl, ii_x294.2.2.1, ([122882], [31]), ai_hds [(67, [((0, (5, 0)), ([(0, (.inr (fr 1), (0, 0))), (1, (.inr (fr 30), (0, 0))), (2, (.inl (2147483649, 2147483649), (0, 0))), (3, (.inl (2147483648, 2147483648), (0, 0))), (4, (.inl (2147483679, 2147483679), (0, 0))), (5, (.inl (2147483648, 2147483679), (0, 0)))], []))])]) 1000000 246 [(67, 0)] ii_x294 = true := by decide +kernel
theorem ic_x294 {l : Launch} {X : fx_X} {Y : fx_Y} {B : fx_B} (he : ai_env X B) : ai_con l X Y B ai_T0 ai_N 246 ii_x294 := ai_case he (fun _ _ _ _ => trivial) ik_x294 ⟨ic_x19 he, ic_x293 he, trivial⟩

def ii_x295 : ai_I := (([.inr (fr 1), .inr (fr 30), .inl (2147483648, 2147483648), .inl (2147483648, 2147483648)], []), ((some (.inl (2147483648, 2147483649)), []), (([4098, 4099, 8194, 8196, 8197, 8198, 8199, 122882, 122883], [31]), 60)))
set_option maxRecDepth 100000 in
theorem ik_x295 : ai_inst (ai_T0, ai_cts [(240, ii_x19), (246, ii_x294)], ai_mem ai_inl, ii_x295.2.2.1, ([122882], [31]), ai_hds [(67, [((0, (5, 0)), ([(0, (.inr (fr 1), (0, 0))), (1, (.inr (fr 30), (0, 0))), (2, (.inl (2147483648, 2147483648), (0, 0))), (3, (.inl (2147483648, 2147483648), (0, 0))), (4, (.inl (2147483679, 2147483679), (0, 0))), (5, (.inl (2147483648, 2147483679), (0, 0)))], []))])]) 1000000 246 [(67, 0)] ii_x295 = true := by decide +kernel
theorem ic_x295 {l : Launch} {X : fx_X} {Y : fx_Y} {B : fx_B} (he : ai_env X B) : ai_con l X Y B ai_T0 ai_N 246 ii_x295 := ai_case he (fun _ _ _ _ => trivial) ik_x295 ⟨ic_x19 he, ic_x294 he, trivial⟩
