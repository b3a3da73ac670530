def ii_x79 : ai_I := (([.inr (fr 1), .inr (fr 13), .inl (2147483648, 2147483648), .inl (2147483651, 2147483651)], []), ((some (.inl (2147483648, 2147483649)), []), (([4098, 4099, 8194, 8196, 8197, 8198, 8199, 53250, 53251], [14]), 39)))
set_option maxRecDepth 100000 in
theorem ik_x79 : ai_inst (ai_T0, ai_cts [(240, ii_x19), (246, ii_x78)], ai_mem ai_inl, ii_x79.2.2.1, ([53250], [14]), ai_hds [(67, [((0, (5, 0)), ([(0, (.inr (fr 1), (0, 0))), (1, (.inr (fr 13), (0, 0))), (2, (.inl (2147483648, 2147483648), (0, 0))), (3, (.inl (2147483651, 2147483651), (0, 0))), (4, (.inl (2147483679, 2147483679), (0, 0))), (5, (.inl (2147483648, 2147483679), (0, 0)))], []))])]) 1000000 246 [(67, 0)] ii_x79 = true := by decide +kernel
theorem ic_x79 {l : Launch} {X : fx_X} {Y : fx_Y} {B : fx_B} (he : ai_env X B) : ai_con l X Y B ai_T0 ai_N 246 ii_x79 := ai_case he (fun _ _ _ _ => trivial) ik_x79 ⟨ic_x19 he, ic_x78 he, trivial⟩

def ii_x80 : ai_I := (([.inr (fr 1), .inr (fr 13), .inl (2147483650, 2147483650)], []), ((some (.inl (2147483648, 2147483649)), []), (([4098, 4099, 8194, 8196, 8197, 8198, 8199, 53250, 53251], [14]), 40)))
set_option maxRecDepth 100000 in
theorem ik_x80 : ai_inst (ai_T0, ai_cts [(240, ii_x19), (246, ii_x79), (247, ii_x21)], ai_mem ai_inl, ii_x80.2.2.1, ([4098, 4099, 53250, 53251], [14]), ai_hds []) 1000000 278 [] ii_x80 = true := by decide +kernel
theorem ic_x80 {l : Launch} {X : fx_X} {Y : fx_Y} {B : fx_B} (he : ai_env X B) : ai_con l X Y B ai_T0 ai_N 278 ii_x80 := ai_case he (fun _ _ _ _ => trivial) ik_x80 ⟨ic_x19 he, ic_x79 he, ic_x21 he, trivial⟩

def ii_x81 : ai_I := (([.inr (fr 1), .inr (fr 13), .inl (2147483653, 2147483653), .inl (2147483650, 2147483650)], []), ((some (.inl (2147483648, 2147483649)), []), (([4098, 4099, 8194, 8196, 8197, 8198, 8199, 53250, 53251], [14]), 41)))
set_option maxRecDepth 100000 in
theorem ik_x81 : ai_inst (ai_T0, ai_cts [(278, ii_x80)], ai_mem ai_inl, ii_x81.2.2.1, ([], []), ai_hds []) 1000000 246 [(67, 0)] ii_x81 = true := by decide +kernel
theorem ic_x81 {l : Launch} {X : fx_X} {Y : fx_Y} {B : fx_B} (he : ai_env X B) : ai_con l X Y B ai_T0 ai_N 246 ii_x81 := ai_case he (fun _ _ _ _ => trivial) ik_x81 ⟨ic_x80 he, trivial⟩

def ii_x82 : ai_I := (([.inr (fr 1), .inr (fr 13), .inl (2147483652, 2147483652), .inl (2147483650, 2147483650)], []), ((some (.inl (2147483648, 2147483649)), []), (([4098, 4099, 8194, 8196, 8197, 8198, 8199, 53250, 53251], [14]), 42)))
set_option maxRecDepth 100000 in
theorem ik_x82 : ai_inst (ai_T0, ai_cts [(240, ii_x19), (246, ii_x81)], ai_mem ai_inl, ii_x82.2.2.1, ([53250], [14]), ai_hds [(67, [((0, (5, 0)), ([(0, (.inr (fr 1), (0, 0))), (1, (.inr (fr 13), (0, 0))), (2, (.inl (2147483652, 2147483652), (0, 0))), (3, (.inl (2147483650, 2147483650), (0, 0))), (4, (.inl (2147483679, 2147483679), (0, 0))), (5, (.inl (2147483648, 2147483679), (0, 0)))], []))])]) 1000000 246 [(67, 0)] ii_x82 = true := by decide +kernel
theorem ic_x82 {l : Launch} {X : fx_X} {Y : fx_Y} {B : fx_B} (he : ai_env X B) : ai_con l X Y B ai_T0 ai_N 246 ii_x82 := ai_case he (fun _ _ _ _ => trivial) ik_x82 ⟨ic_x19 he, ic_x81 he, trivial⟩

def ii_x83 : ai_I := (([.inr (fr 1), .inr (fr 13), .inl (2147483651, 2147483651), .inl (2147483650, 2147483650)], []), ((some (.inl (2147483648, 2147483649)), []), (([4098, 4099, 8194, 8196, 8197, 8198, 8199, 53250, 53251], [14]), 43)))
set_option maxRecDepth 100000 in
theorem ik_x83 : ai_inst (ai_T0, ai_cts [(240, ii_x19), (246, ii_x82)], ai_mem ai_inl, ii_x83.2.2.1, ([53250], [14]), ai_hds [(67, [((0, (5, 0)), ([(0, (.inr (fr 1), (0, 0))), (1, (.inr (fr 13), (0, 0))), (2, (.inl (2147483651, 2147483651), (0, 0))), (3, (.inl (2147483650, 2147483650), (0, 0))), (4, (.inl (2147483679, 2147483679), (0, 0))), (5, (.inl (2147483648, 2147483679), (0, 0)))], []))])]) 1000000 246 [(67, 0)] ii_x83 = true := by decide +kernel
theorem ic_x83 {l : Launch} {X : fx_X} {Y : fx_Y} {B : fx_B} (he : ai_env X B) : ai_con l X Y B ai_T0 ai_N 246 ii_x83 := ai_case he (fun _ _ _ _ => trivial) ik_x83 ⟨ic_x19 he, ic_x82 he, trivial⟩

def ii_x84 : ai_I := (([.inr (fr 1), .inr (fr 13), .inl (2147483650, 2147483650)], []), ((some (.inl (2147483648, 2147483649)), []), (([4098, 4099, 8194, 8196, 8197, 8198, 8199, 53250, 53251], [14]), 38)))
set_option maxRecDepth 100000 in
theorem ik_x84 : ai_inst (ai_T0, ai_cts [(240, ii_x19), (246, ii_x77)], ai_mem ai_inl, ii_x84.2.2.1, ([53250], [14]), ai_hds []) 1000000 279 [] ii_x84 = true := by decide +kernel
theorem ic_x84 {l : Launch} {X : fx_X} {Y : fx_Y} {B : fx_B} (he : ai_env X B) : ai_con l X Y B ai_T0 ai_N 279 ii_x84 := ai_case he (fun _ _ _ _ => trivial) ik_x84 ⟨ic_x19 he, ic_x77 he, trivial⟩

def ii_x85 : ai_I := (([.inr (fr 1), .inr (fr 13), .inl (2147483650, 2147483650), .inl (2147483650, 2147483650)], []), ((some (.inl (2147483648, 2147483649)), []), (([4098, 4099, 8194, 8196, 8197, 8198, 8199, 53250, 53251], [14]), 44)))
set_option maxRecDepth 100000 in
theorem ik_x85 : ai_inst (ai_T0, ai_cts [(240, ii_x19), (246, ii_x83), (279, ii_x84)], ai_mem ai_inl, ii_x85.2.2.1, ([53250], [14]), ai_hds [(67, [((0, (5, 0)), ([(0, (.inr (fr 1), (0, 0))), (1, (.inr (fr 13), (0, 0))), (2, (.inl (2147483650, 2147483650), (0, 0))), (3, (.inl (2147483650, 2147483650), (0, 0))), (4, (.inl (2147483649, 2147483649), (0, 0))), (5, (.inl (2147483648, 2147483649), (0, 0)))], [(4096, (.inr (fr 2), (0, 0)))]))])]) 1000000 246 [(67, 0)] ii_x85 = true := by decide +kernel
theorem ic_x85 {l : Launch} {X : fx_X} {Y : fx_Y} {B : fx_B} (he : ai_env X B) : ai_con l X Y B ai_T0 ai_N 246 ii_x85 := ai_case he (fun _ _ _ _ => trivial) ik_x85 ⟨ic_x19 he, ic_x83 he, ic_x84 he, trivial⟩

def ii_x86 : ai_I := (([.inr (fr 1), .inr (fr 13), .inl (2147483649, 2147483649), .inl (2147483650, 2147483650)], []), ((some (.inl (2147483648, 2147483649)), []), (([4098, 4099, 8194, 8196, 8197, 8198, 8199, 53250, 53251], [14]), 45)))
set_option maxRecDepth 100000 in
theorem ik_x86 : ai_inst (ai_T0, ai_cts [(240, ii_x19), (246, ii_x85)], ai_mem ai_inl, ii_x86.2.2.1, ([53250], [14]), ai_hds [(67, [((0, (5, 0)), ([(0, (.inr (fr 1), (0, 0))), (1, (.inr (fr 13), (0, 0))), (2, (.inl (2147483649, 2147483649), (0, 0))), (3, (.inl (2147483650, 2147483650), (0, 0))), (4, (.inl (2147483679, 2147483679), (0, 0))), (5, (.inl (2147483648, 2147483679), (0, 0)))], []))])]) 1000000 246 [(67, 0)] ii_x86 = true := by decide +kernel
theorem ic_x86 {l : Launch} {X : fx_X} {Y : fx_Y} {B : fx_B} (he : ai_env X B) : ai_con l X Y B ai_T0 ai_N 246 ii_x86 := ai_case he (fun _ _ _ _ => trivial) ik_x86 ⟨ic_x19 he, ic_x85 he, trivial⟩

def ii_x87 : ai_I := (([.inr (fr 1), .inr (fr 13), .inl (2147483648, 2147483648), .inl (2147483650, 2147483650)], []), ((some (.inl (2147483648, 2147483649)), []), (([4098, 4099, 8194, 8196, 8197, 8198, 8199, 53250, 53251], [14]), 46)))
set_option maxRecDepth 100000 in
theorem ik_x87 : ai_inst (ai_T0, ai_cts [(240, ii_x19), (246, ii_x86)], ai_mem ai_inl, ii_x87.2.2.1, ([53250], [14]), ai_hds [(67, [((0, (5, 0)), ([(0, (.inr (fr 1), (0, 0))), (1, (.inr (fr 13), (0, 0))), (2, (.inl (2147483648, 2147483648), (0, 0))), (3, (.inl (2147483650, 2147483650), (0, 0))), (4, (.inl (2147483679, 2147483679), (0, 0))), (5, (.inl (2147483648, 2147483679), (0, 0)))], []))])]) 1000000 246 [(67, 0)] ii_x87 = true := by decide +kernel
theorem ic_x87 {l : Launch} {X : fx_X} {Y : fx_Y} {B : fx_B} (he : ai_env X B) : ai_con l X Y B ai_T0 ai_N 246 ii_x87 := ai_case he (fun _ _ _ _ => trivial) ik_x87 ⟨ic_x19 he, ic_x86 he, trivial⟩

def ii_x88 : ai_I := (([.inr (fr 1), .inr (fr 13), .inl (2147483649, 2147483649)], []), ((some (.inl (2147483648, 2147483649)), []), (([4098, 4099, 8194, 8196, 8197, 8198, 8199, 53250, 53251], [14]), 47)))
set_option maxRecDepth 100000 in
theorem ik_x88 : ai_inst (ai_T0, ai_cts [(240, ii_x19), (246, ii_x87), (247, ii_x21)], ai_mem ai_inl, ii_x88.2.2.1, ([4098, 4099, 53250, 53251], [14]), ai_hds []) 1000000 278 [] ii_x88 = true := by decide +kernel
theorem ic_x88 {l : Launch} {X : fx_X} {Y : fx_Y} {B : fx_B} (he : ai_env X B) : ai_con l X Y B ai_T0 ai_N 278 ii_x88 := ai_case he (fun _ _ _ _ => trivial) ik_x88 ⟨ic_x19 he, ic_x87 he, ic_x21 he, trivial⟩

def ii_x89 : ai_I := (([.inr (fr 1), .inr (fr 13), .inl (2147483653, 2147483653), .inl (2147483649, 2147483649)], []), ((some (.inl (2147483648, 2147483649)), []), (([4098, 4099, 8194, 8196, 8197, 8198, 8199, 53250, 53251], [14]), 48)))
set_option maxRecDepth 100000 in
theorem ik_x89 : ai_inst (ai_T0, ai_cts [(278, ii_x88)], ai_mem ai_inl, ii_x89.2.2.1, ([], []), ai_hds []) 1000000 246 [(67, 0)] ii_x89 = true := by decide +kernel
theorem ic_x89 {l : Launch} {X : fx_X} {Y : fx_Y} {B : fx_B} (he : ai_env X B) : ai_con l X Y B ai_T0 ai_N 246 ii_x89 := ai_case he (fun _ _ _ _ => trivial) ik_x89 ⟨ic_x88 he, trivial⟩

def ii_x90 : ai_I := (([.inr (fr 1), .inr (fr 13), .inl (2147483652, 2147483652), .inl (2147483649, 2147483649)], []), ((some (.inl (2147483648, 2147483649)), []), (([4098, 4099, 8194, 8196, 8197, 8198, 8199, 53250, 53251], [14]), 49)))
set_option maxRecDepth 100000 in
theorem ik_x90 : ai_inst (ai_T0, ai_cts [(240, ii_x19), (246, ii_x89)], ai_mem ai_inl, ii_x90.2.2.1, ([53250], [14]), ai_hds [(67, [((0, (5, 0)), ([(0, (.inr (fr 1), (0, 0))), (1, (.inr (fr 13), (0, 0))), (2, (.inl (2147483652, 2147483652), (0, 0))), (3, (.inl (2147483649, 2147483649), (0, 0))), (4, (.inl (2147483679, 2147483679), (0, 0))), (5, (.inl (2147483648, 2147483679), (0, 0)))], []))])]) 1000000 246 [(67, 0)] ii_x90 = true := by decide +kernel
theorem ic_x90 {l : Launch} {X : fx_X} {Y : fx_Y} {B : fx_B} (he : ai_env X B) : ai_con l X Y B ai_T0 ai_N 246 ii_x90 := ai_case he (fun _ _ _ _ => trivial) ik_x90 ⟨ic_x19 he, ic_x89 he, trivial⟩

def ii_x91 : ai_I := (([.inr (fr 1), .inr (fr 13), .inl (2147483651, 2147483651), .inl (2147483649, 2147483649)], []), ((some (.inl (2147483648, 2147483649)), []), (([4098, 4099, 8194, 8196, 8197, 8198, 8199, 53250, 53251], [14]), 50)))
set_option maxRecDepth 100000 in
theorem ik_x91 : ai_inst (ai_T0, ai_cts [(240, ii_x19), (246, ii_x90)], ai_mem ai_inl, ii_x91.2.2.1, ([53250], [14]), ai_hds [(67, [((0, (5, 0)), ([(0, (.inr (fr 1), (0, 0))), (1, (.inr (fr 13), (0, 0))), (2, (.inl (2147483651, 2147483651), (0, 0))), (3, (.inl (2147483649, 2147483649), (0, 0))), (4, (.inl (2147483679, 2147483679), (0, 0))), (5, (.inl (2147483648, 2147483679), (0, 0)))], []))])]) 1000000 246 [(67, 0)] ii_x91 = true := by decide +kernel
theorem ic_x91 {l : Launch} {X : fx_X} {Y : fx_Y} {B : fx_B} (he : ai_env X B) : ai_con l X Y B ai_T0 ai_N 246 ii_x91 := ai_case he (fun _ _ _ _ => trivial) ik_x91 ⟨ic_x19 he, ic_x90 he, trivial⟩

def ii_x92 : ai_I := (([.inr (fr 1), .inr (fr 13), .inl (2147483649, 2147483649)], []), ((some (.inl (2147483648, 2147483649)), []), (([4098, 4099, 8194, 8196, 8197, 8198, 8199, 53250, 53251], [14]), 45)))
set_option maxRecDepth 100000 in
theorem ik_x92 : ai_inst (ai_T0, ai_cts [(240, ii_x19), (246, ii_x85)], ai_mem ai_inl, ii_x92.2.2.1, ([53250], [14]), ai_hds []) 1000000 279 [] ii_x92 = true := by decide +kernel
theorem ic_x92 {l : Launch} {X : fx_X} {Y : fx_Y} {B : fx_B} (he : ai_env X B) : ai_con l X Y B ai_T0 ai_N 279 ii_x92 := ai_case he (fun _ _ _ _ => trivial) ik_x92 ⟨ic_x19 he, ic_x85 he, trivial⟩

def ii_x93 : ai_I := (([.inr (fr 1), .inr (fr 13), .inl (2147483650, 2147483650), .inl (2147483649, 2147483649)], []), ((some (.inl (2147483648, 2147483649)), []), (([4098, 4099, 8194, 8196, 8197, 8198, 8199, 53250, 53251], [14]), 51)))
set_option maxRecDepth 100000 in
theorem ik_x93 : ai_inst (ai_T0, ai_cts [(240, ii_x19), (246, ii_x91), (279, ii_x92)], ai_mem ai_inl, ii_x93.2.2.1, ([53250], [14]), ai_hds [(67, [((0, (5, 0)), ([(0, (.inr (fr 1), (0, 0))), (1, (.inr (fr 13), (0, 0))), (2, (.inl (2147483650, 2147483650), (0, 0))), (3, (.inl (2147483649, 2147483649), (0, 0))), (4, (.inl (2147483649, 2147483649), (0, 0))), (5, (.inl (2147483648, 2147483649), (0, 0)))], [(4096, (.inr (fr 2), (0, 0)))]))])]) 1000000 246 [(67, 0)] ii_x93 = true := by decide +kernel
theorem ic_x93 {l : Launch} {X : fx_X} {Y : fx_Y} {B : fx_B} (he : ai_env X B) : ai_con l X Y B ai_T0 ai_N 246 ii_x93 := ai_case he (fun _ _ _ _ => trivial) ik_x93 ⟨ic_x19 he, ic_x91 he, ic_x92 he, trivial⟩

def ii_x94 : ai_I := (([.inr (fr 1), .inr (fr 13), .inl (2147483649, 2147483649), .inl (2147483649, 2147483649)], []), ((some (.inl (2147483648, 2147483649)), []), (([4098, 4099, 8194, 8196, 8197, 8198, 8199, 53250, 53251], [14]), 52)))
set_option maxRecDepth 100000 in
theorem ik_x94 : ai_inst (ai_T0, ai_cts [(240, ii_x19), (246, ii_x93)], ai_mem ai_inl, ii_x94.2.2.1, ([53250], [14]), ai_hds [(67, [((0, (5, 0)), ([(0, (.inr (fr 1), (0, 0))), (1, (.inr (fr 13), (0, 0))), (2, (.inl (2147483649, 2147483649), (0, 0))), (3, (.inl (2147483649, 2147483649), (0, 0))), (4, (.inl (2147483679, 2147483679), (0, 0))), (5, (.inl (2147483648, 2147483679), (0, 0)))], []))])]) 1000000 246 [(67, 0)] ii_x94 = true := by decide +kernel
theorem ic_x94 {l : Launch} {X : fx_X} {Y : fx_Y} {B : fx_B} (he : ai_env X B) : ai_con l X Y B ai_T0 ai_N 246 ii_x94 := ai_case he (fun _ _ _ _ => trivial) ik_x94 ⟨ic_x19 he, ic_x93 he, trivial⟩

def ii_x95 : ai_I := (([.inr (fr 1), .inr (fr 13), .inl (2147483648, 2147483648), .inl (2147483649, 2147483649)], []), ((some (.inl (2147483648, 2147483649)), []), (([4098, 4099, 8194, 8196, 8197, 8198, 8199, 53250, 53251], [14]), 53)))
set_option maxRecDepth 100000 in
theorem ik_x95 : ai_inst (ai_T0, ai_cts [(240, ii_x19), (246, ii_x94)], ai_mem ai_inl, ii_x95.2.2.1, ([53250], [14]), ai_hds [(67, [((0, (5, 0)), ([(0, (.inr (fr 1), (0, 0))), (1, (.inr (fr 13), (0, 0))), (2, (.inl (2147483648, 2147483648), (0, 0))), (3, (.inl (2147483649, 2147483649), (0, 0))), (4, (.inl (2147483679, 2147483679), (0, 0))), (5, (.inl (2147483648, 2147483679), (0, 0)))], []))])]) 1000000 246 [(67, 0)] ii_x95 = true := by decide +kernel
theorem ic_x95 {l : Launch} {X : fx_X} {Y : fx_Y} {B : fx_B} (he : ai_env X B) : ai_con l X Y B ai_T0 ai_N 246 ii_x95 := ai_case he (fun _ _ _ _ => trivial) ik_x95 ⟨ic_x19 he, ic_x94 he, trivial⟩

def ii_x96 : ai_I := (([.inr (fr 1), .inr (fr 13), .inl (2147483648, 2147483648)], []), ((some (.inl (2147483648, 2147483649)), []), (([4098, 4099, 8194, 8196, 8197, 8198, 8199, 53250, 53251], [14]), 54)))
set_option maxRecDepth 100000 in
theorem ik_x96 : ai_inst (ai_T0, ai_cts [(240, ii_x19), (246, ii_x95), (247, ii_x21)], ai_mem ai_inl, ii_x96.2.2.1, ([4098, 4099, 53250, 53251], [14]), ai_hds []) 1000000 278 [] ii_x96 = true := by decide +kernel
theorem ic_x96 {l : Launch} {X : fx_X} {Y : fx_Y} {B : fx_B} (he : ai_env X B) : ai_con l X Y B ai_T0 ai_N 278 ii_x96 := ai_case he (fun _ _ _ _ => trivial) ik_x96 ⟨ic_x19 he, ic_x95 he, ic_x21 he, trivial⟩

def ii_x97 : ai_I := (([.inr (fr 1), .inr (fr 13), .inl (2147483653, 2147483653), .inl (2147483648, 2147483648)], []), ((some (.inl (2147483648, 2147483649)), []), (([4098, 4099, 8194, 8196, 8197, 8198, 8199, 53250, 53251], [14]), 55)))
set_option maxRecDepth 100000 in
theorem ik_x97 : ai_inst (ai_T0, ai_cts [(278, ii_x96)], ai_mem ai_inl, ii_x97.2.2.1, ([], []), ai_hds []) 1000000 246 [(67, 0)] ii_x97 = true := by decide +kernel
theorem ic_x97 {l : Launch} {X : fx_X} {Y : fx_Y} {B : fx_B} (he : ai_env X B) : ai_con l X Y B ai_T0 ai_N 246 ii_x97 := ai_case he (fun _ _ _ _ => trivial) ik_x97 ⟨ic_x96 he, trivial⟩

def ii_x98 : ai_I := (([.inr (fr 1), .inr (fr 13), .inl (2147483652, 2147483652), .inl (2147483648, 2147483648)], []), ((some (.inl (2147483648, 2147483649)), []), (([4098, 4099, 8194, 8196, 8197, 8198, 8199, 53250, 53251], [14]), 56)))
set_option maxRecDepth 100000 in
theorem ik_x98 : ai_inst (ai_T0, ai_cts [(240, ii_x19), (246, ii_x97)], ai_mem ai_inl, ii_x98.2.2.1, ([53250], [14]), ai_hds [(67, [((0, (5, 0)), ([(0, (.inr (fr 1), (0, 0))), (1, (.inr (fr 13), (0, 0))), (2, (.inl (2147483652, 2147483652), (0, 0))), (3, (.inl (2147483648, 2147483648), (0, 0))), (4, (.inl (2147483679, 2147483679), (0, 0))), (5, (.inl (2147483648, 2147483679), (0, 0)))], []))])]) 1000000 246 [(67, 0)] ii_x98 = true := by decide +kernel
theorem ic_x98 {l : Launch} {X : fx_X} {Y : fx_Y} {B : fx_B} (he : ai_env X B) : ai_con l X Y B ai_T0 ai_N 246 ii_x98 := ai_case he (fun _ _ _ _ => trivial) ik_x98 ⟨ic_x19 he, ic_x97 he, trivial⟩

def ii_x99 : ai_I := (([.inr (fr 1), .inr (fr 13), .inl (2147483651, 2147483651), .inl (2147483648, 2147483648)], []), ((some (.inl (2147483648, 2147483649)), []), (([4098, 4099, 8194, 8196, 8197, 8198, 8199, 53250, 53251], [14]), 57)))
set_option maxRecDepth 100000 in
theorem ik_x99 : ai_inst (ai_T0, ai_cts [(240, ii_x19), (246, ii_x98)], ai_mem ai_inl, ii_x99.2.2.1, ([53250], [14]), ai_hds [(67, [((0, (5, 0)), ([(0, (.inr (fr 1), (0, 0))), (1, (.inr (fr 13), (0, 0))), (2, (.inl (2147483651, 2147483651), (0, 0))), (3, (.inl (2147483648, 2147483648), (0, 0))), (4, (.inl (2147483679, 2147483679), (0, 0))), (5, (.inl (2147483648, 2147483679), (0, 0)))], []))])]) 1000000 246 [(67, 0)] ii_x99 = true := by decide +kernel
theorem ic_x99 {l : Launch} {X : fx_X} {Y : fx_Y} {B : fx_B} (he : ai_env X B) : ai_con l X Y B ai_T0 ai_N 246 ii_x99 := ai_case he (fun _ _ _ _ => trivial) ik_x99 ⟨ic_x19 he, ic_x98 he, trivial⟩

def ii_x100 : ai_I := (([.inr (fr 1), .inr (fr 13), .inl (2147483648, 2147483648)], []), ((some (.inl (2147483648, 2147483649)), []), (([4098, 4099, 8194, 8196, 8197, 8198, 8199, 53250, 53251], [14]), 52)))
set_option maxRecDepth 100000 in
theorem ik_x100 : ai_inst (ai_T0, ai_cts [(240, ii_x19), (246, ii_x93)], ai_mem ai_inl, ii_x100.2.2.1, ([53250], [14]), ai_hds []) 1000000 279 [] ii_x100 = true := by decide +kernel
theorem ic_x100 {l : Launch} {X : fx_X} {Y : fx_Y} {B : fx_B} (he : ai_env X B) : ai_con l X Y B ai_T0 ai_N 279 ii_x100 := ai_case he (fun _ _ _ _ => trivial) ik_x100 ⟨ic_x19 he, ic_x93 he, trivial⟩

def ii_x101 : ai_I := (([.inr (fr 1), .inr (fr 13), .inl (2147483650, 2147483650), .inl (2147483648, 2147483648)], []), ((some (.inl (2147483648, 2147483649)), []), (([4098, 4099, 8194, 8196, 8197, 8198, 8199, 53250, 53251], [14]), 58)))
set_option maxRecDepth 100000 in
theorem ik_x101 : ai_inst (ai_T0, ai_cts [(240, ii_x19), (246, ii_x99), (279, ii_x100)], ai_mem ai_inl, ii_x101.2.2.1, ([53250], [14]), ai_hds [(67, [((0, (5, 0)), ([(0, (.inr (fr 1), (0, 0))), (1, (.inr (fr 13), (0, 0))), (2, (.inl (2147483650, 2147483650), (0, 0))), (3, (.inl (2147483648, 2147483648), (0, 0))), (4, (.inl (2147483649, 2147483649), (0, 0))), (5, (.inl (2147483648, 2147483649), (0, 0)))], [(4096, (.inr (fr 2), (0, 0)))]))])]) 1000000 246 [(67, 0)] ii_x101 = true := by decide +kernel
theorem ic_x101 {l : Launch} {X : fx_X} {Y : fx_Y} {B : fx_B} (he : ai_env X B) : ai_con l X Y B ai_T0 ai_N 246 ii_x101 := ai_case he (fun _ _ _ _ => trivial) ik_x101 ⟨ic_x19 he, ic_x99 he, ic_x100 he, trivial⟩

def ii_x102 : ai_I := (([.inr (fr 1), .inr (fr 13), .inl (2147483649, 2147483649), .inl (2147483648, 2147483648)], []), ((some (.inl (2147483648, 2147483649)), []), (([4098, 4099, 8194, 8196, 8197, 8198, 8199, 53250, 53251], [14]), 59)))
set_option maxRecDepth 100000 in
theorem ik_x102 : ai_inst (ai_T0, ai_cts [(240, ii_x19), (246, ii_x101)], ai_mem ai_inl, ii_x102.2.2.1, ([53250], [14]), ai_hds [(67, [((0, (5, 0)), ([(0, (.inr (fr 1), (0, 0))), (1, (.inr (fr 13), (0, 0))), (2, (.inl (2147483649, 2147483649), (0, 0))), (3, (.inl (2147483648, 2147483648), (0, 0))), (4, (.inl (2147483679, 2147483679), (0, 0))), (5, (.inl (2147483648, 2147483679), (0, 0)))], []))])]) 1000000 246 [(67, 0)] ii_x102 = true := by decide +kernel
theorem ic_x102 {l : Launch} {X : fx_X} {Y : fx_Y} {B : fx_B} (he : ai_env X B) : ai_con l X Y B ai_T0 ai_N 246 ii_x102 := ai_case he (fun _ _ _ _ => trivial) ik_x102 ⟨ic_x19 he, ic_x101 he, trivial⟩

def ii_x103 : ai_I := (([.inr (fr 1), .inr (fr 13), .inl (2147483648, 2147483648), .inl (2147483648, 2147483648)], []), ((some (.inl (2147483648, 2147483649)), []), (([4098, 4099, 8194, 8196, 8197, 8198, 8199, 53250, 53251], [14]), 60)))
set_option maxRecDepth 100000 in
theorem ik_x103 : ai_inst (ai_T0, ai_cts [(240, ii_x19), (246, ii_x102)], ai_mem ai_inl, ii_x103.2.2.1, ([53250], [14]), ai_hds [(67, [((0, (5, 0)), ([(0, (.inr (fr 1), (0, 0))), (1, (.inr (fr 13), (0, 0))), (2, (.inl (2147483648, 2147483648), (0, 0))), (3, (.inl (2147483648, 2147483648), (0, 0))), (4, (.inl (2147483679, 2147483679), (0, 0))), (5, (.inl (2147483648, 2147483679), (0, 0)))], []))])]) 1000000 246 [(67, 0)] ii_x103 = true := by decide +kernel
theorem ic_x103 {l : Launch} {X : fx_X} {Y : fx_Y} {B : fx_B} (he : ai_env X B) : ai_con l X Y B ai_T0 ai_N 246 ii_x103 := ai_case he (fun _ _ _ _ => trivial) ik_x103 ⟨ic_x19 he, ic_x102 he, trivial⟩

def ii_x104 : ai_I := (([.inr (fr 1), .inr (fr 16), .inl (2147483655, 2147483655)], []), ((some (.inl (2147483648, 2147483649)), []), (([4098, 4099, 8194, 8196, 8197, 8198, 8199, 65538, 65539], [17]), 5)))
set_option maxRecDepth 100000 in
theorem ik_x104 : ai_inst (ai_T0, ai_cts [(240, ii_x19)], ai_mem ai_inl, ii_x104.2.2.1, ([4098, 4099, 65538, 65539], [17]), ai_hds []) 1000000 278 [] ii_x104 = true := by decide +kernel
theorem ic_x104 {l : Launch} {X : fx_X} {Y : fx_Y} {B : fx_B} (he : ai_env X B) : ai_con l X Y B ai_T0 ai_N 278 ii_x104 := ai_case he (fun _ _ _ _ => trivial) ik_x104 ⟨ic_x19 he, trivial⟩

def ii_x105 : ai_I := (([.inr (fr 1), .inr (fr 16), .inl (2147483653, 2147483653), .inl (2147483655, 2147483655)], []), ((some (.inl (2147483648, 2147483649)), []), (([4098, 4099, 8194, 8196, 8197, 8198, 8199, 65538, 65539], [17]), 6)))
set_option maxRecDepth 100000 in
theorem ik_x105 : ai_inst (ai_T0, ai_cts [(278, ii_x104)], ai_mem ai_inl, ii_x105.2.2.1, ([], []), ai_hds []) 1000000 246 [(67, 0)] ii_x105 = true := by decide +kernel
theorem ic_x105 {l : Launch} {X : fx_X} {Y : fx_Y} {B : fx_B} (he : ai_env X B) : ai_con l X Y B ai_T0 ai_N 246 ii_x105 := ai_case he (fun _ _ _ _ => trivial) ik_x105 ⟨ic_x104 he, trivial⟩

def ii_x106 : ai_I := (([.inr (fr 1), .inr (fr 16), .inl (2147483652, 2147483652), .inl (2147483655, 2147483655)], []), ((some (.inl (2147483648, 2147483649)), []), (([4098, 4099, 8194, 8196, 8197, 8198, 8199, 65538, 65539], [17]), 7)))
set_option maxRecDepth 100000 in
theorem ik_x106 : ai_inst (ai_T0, ai_cts [(240, ii_x19), (246, ii_x105)], ai_mem ai_inl, ii_x106.2.2.1, ([65538], [17]), ai_hds [(67, [((0, (5, 0)), ([(0, (.inr (fr 1), (0, 0))), (1, (.inr (fr 16), (0, 0))), (2, (.inl (2147483652, 2147483652), (0, 0))), (3, (.inl (2147483655, 2147483655), (0, 0))), (4, (.inl (2147483679, 2147483679), (0, 0))), (5, (.inl (2147483648, 2147483679), (0, 0)))], []))])]) 1000000 246 [(67, 0)] ii_x106 = true := by decide +kernel
theorem ic_x106 {l : Launch} {X : fx_X} {Y : fx_Y} {B : fx_B} (he : ai_env X B) : ai_con l X Y B ai_T0 ai_N 246 ii_x106 := ai_case he (fun _ _ _ _ => trivial) ik_x106 ⟨ic_x19 he, ic_x105 he, trivial⟩

def ii_x107 : ai_I := (([.inr (fr 1), .inr (fr 16), .inl (2147483651, 2147483651), .inl (2147483655, 2147483655)], []), ((some (.inl (2147483648, 2147483649)), []), (([4098, 4099, 8194, 8196, 8197, 8198, 8199, 65538, 65539], [17]), 8)))
set_option maxRecDepth 100000 in
theorem ik_x107 : ai_inst (ai_T0, ai_cts [(240, ii_x19), (246, ii_x106)], ai_mem ai_inl, ii_x107.2.2.1, ([65538], [17]), ai_hds [(67, [((0, (5, 0)), ([(0, (.inr (fr 1), (0, 0))), (1, (.inr (fr 16), (0, 0))), (2, (.inl (2147483651, 2147483651), (0, 0))), (3, (.inl (2147483655, 2147483655), (0, 0))), (4, (.inl (2147483679, 2147483679), (0, 0))), (5, (.inl (2147483648, 2147483679), (0, 0)))], []))])]) 1000000 246 [(67, 0)] ii_x107 = true := by decide +kernel
theorem ic_x107 {l : Launch} {X : fx_X} {Y : fx_Y} {B : fx_B} (he : ai_env X B) : ai_con l X Y B ai_T0 ai_N 246 ii_x107 := ai_case he (fun _ _ _ _ => trivial) ik_x107 ⟨ic_x19 he, ic_x106 he, trivial⟩

def ii_x108 : ai_I := (([.inr (fr 1), .inr (fr 16), .inl (2147483655, 2147483655)], []), ((some (.inl (2147483648, 2147483648)), []), (([4098, 4099], []), 2)))
set_option maxRecDepth 100000 in
theorem ik_x108 : ai_inst (ai_T0, ai_cts [], ai_mem ai_inl, ii_x108.2.2.1, ([4098, 4099], []), ai_hds []) 1000000 279 [] ii_x108 = true := by decide +kernel
theorem ic_x108 {l : Launch} {X : fx_X} {Y : fx_Y} {B : fx_B} (he : ai_env X B) : ai_con l X Y B ai_T0 ai_N 279 ii_x108 := ai_case he (fun _ _ _ _ => trivial) ik_x108 trivial

def ii_x109 : ai_I := (([.inr (fr 1), .inr (fr 16), .inl (2147483650, 2147483650), .inl (2147483655, 2147483655)], []), ((some (.inl (2147483648, 2147483649)), []), (([4098, 4099, 8194, 8196, 8197, 8198, 8199, 65538, 65539], [17]), 9)))
set_option maxRecDepth 100000 in
theorem ik_x109 : ai_inst (ai_T0, ai_cts [(240, ii_x19), (246, ii_x107), (279, ii_x108)], ai_mem ai_inl, ii_x109.2.2.1, ([65538], [17]), ai_hds [(67, [((0, (5, 0)), ([(0, (.inr (fr 1), (0, 0))), (1, (.inr (fr 16), (0, 0))), (2, (.inl (2147483650, 2147483650), (0, 0))), (3, (.inl (2147483655, 2147483655), (0, 0))), (4, (.inl (2147483649, 2147483649), (0, 0))), (5, (.inl (2147483648, 2147483649), (0, 0)))], [(4096, (.inr (fr 2), (0, 0)))]))])]) 1000000 246 [(67, 0)] ii_x109 = true := by decide +kernel
theorem ic_x109 {l : Launch} {X : fx_X} {Y : fx_Y} {B : fx_B} (he : ai_env X B) : ai_con l X Y B ai_T0 ai_N 246 ii_x109 := ai_case he (fun _ _ _ _ => trivial) ik_x109 ⟨ic_x19 he, ic_x107 he, ic_x108 he, trivial⟩

def ii_x110 : ai_I := (([.inr (fr 1), .inr (fr 16), .inl (2147483649, 2147483649), .inl (2147483655, 2147483655)], []), ((some (.inl (2147483648, 2147483649)), []), (([4098, 4099, 8194, 8196, 8197, 8198, 8199, 65538, 65539], [17]), 10)))
set_option maxRecDepth 100000 in
theorem ik_x110 : ai_inst (ai_T0, ai_cts [(240, ii_x19), (246, ii_x109)], ai_mem ai_inl, ii_x110.2.2.1, ([65538], [17]), ai_hds [(67, [((0, (5, 0)), ([(0, (.inr (fr 1), (0, 0))), (1, (.inr (fr 16), (0, 0))), (2, (.inl (2147483649, 2147483649), (0, 0))), (3, (.inl (2147483655, 2147483655), (0, 0))), (4, (.inl (2147483679, 2147483679), (0, 0))), (5, (.inl (2147483648, 2147483679), (0, 0)))], []))])]) 1000000 246 [(67, 0)] ii_x110 = true := by decide +kernel
theorem ic_x110 {l : Launch} {X : fx_X} {Y : fx_Y} {B : fx_B} (he : ai_env X B) : ai_con l X Y B ai_T0 ai_N 246 ii_x110 := ai_case he (fun _ _ _ _ => trivial) ik_x110 ⟨ic_x19 he, ic_x109 he, trivial⟩

def ii_x111 : ai_I := (([.inr (fr 1), .inr (fr 16), .inl (2147483648, 2147483648), .inl (2147483655, 2147483655)], []), ((some (.inl (2147483648, 2147483649)), []), (([4098, 4099, 8194, 8196, 8197, 8198, 8199, 65538, 65539], [17]), 11)))
set_option maxRecDepth 100000 in
theorem ik_x111 : ai_inst (ai_T0, ai_cts [(240, ii_x19), (246, ii_x110)], ai_mem ai_inl, ii_x111.2.2.1, ([65538], [17]), ai_hds [(67, [((0, (5, 0)), ([(0, (.inr (fr 1), (0, 0))), (1, (.inr (fr 16), (0, 0))), (2, (.inl (2147483648, 2147483648), (0, 0))), (3, (.inl (2147483655, 2147483655), (0, 0))), (4, (.inl (2147483679, 2147483679), (0, 0))), (5, (.inl (2147483648, 2147483679), (0, 0)))], []))])]) 1000000 246 [(67, 0)] ii_x111 = true := by decide +kernel
theorem ic_x111 {l : Launch} {X : fx_X} {Y : fx_Y} {B : fx_B} (he : ai_env X B) : ai_con l X Y B ai_T0 ai_N 246 ii_x111 := ai_case he (fun _ _ _ _ => trivial) ik_x111 ⟨ic_x19 he, ic_x110 he, trivial⟩

def ii_x112 : ai_I := (([.inr (fr 1), .inr (fr 16), .inl (2147483654, 2147483654)], []), ((some (.inl (2147483648, 2147483649)), []), (([4098, 4099, 8194, 8196, 8197, 8198, 8199, 65538, 65539], [17]), 12)))
set_option maxRecDepth 100000 in
theorem ik_x112 : ai_inst (ai_T0, ai_cts [(240, ii_x19), (246, ii_x111), (247, ii_x21)], ai_mem ai_inl, ii_x112.2.2.1, ([4098, 4099, 65538, 65539], [17]), ai_hds []) 1000000 278 [] ii_x112 = true := by decide +kernel
theorem ic_x112 {l : Launch} {X : fx_X} {Y : fx_Y} {B : fx_B} (he : ai_env X B) : ai_con l X Y B ai_T0 ai_N 278 ii_x112 := ai_case he (fun _ _ _ _ => trivial) ik_x112 ⟨ic_x19 he, ic_x111 he, ic_x21 he, trivial⟩

def ii_x113 : ai_I := (([.inr (fr 1), .inr (fr 16), .inl (2147483653, 2147483653), .inl (2147483654, 2147483654)], []), ((some (.inl (2147483648, 2147483649)), []), (([4098, 4099, 8194, 8196, 8197, 8198, 8199, 65538, 65539], [17]), 13)))
set_option maxRecDepth 100000 in
theorem ik_x113 : ai_inst (ai_T0, ai_cts [(278, ii_x112)], ai_mem ai_inl, ii_x113.2.2.1, ([], []), ai_hds []) 1000000 246 [(67, 0)] ii_x113 = true := by decide +kernel
theorem ic_x113 {l : Launch} {X : fx_X} {Y : fx_Y} {B : fx_B} (he : ai_env X B) : ai_con l X Y B ai_T0 ai_N 246 ii_x113 := ai_case he (fun _ _ _ _ => trivial) ik_x113 ⟨ic_x112 he, trivial⟩

def ii_x114 : ai_I := (([.inr (fr 1), .inr (fr 16), .inl (2147483652, 2147483652), .inl (2147483654, 2147483654)], []), ((some (.inl (2147483648, 2147483649)), []), (([4098, 4099, 8194, 8196, 8197, 8198, 8199, 65538, 65539], [17]), 14)))
set_option maxRecDepth 100000 in
theorem ik_x114 : ai_inst (ai_T0, ai_cts [(240, ii_x19), (246, ii_x113)], ai_mem ai_inl, ii_x114.2.2.1, ([65538], [17]), ai_hds [(67, [((0, (5, 0)), ([(0, (.inr (fr 1), (0, 0))), (1, (.inr (fr 16), (0, 0))), (2, (.inl (2147483652, 2147483652), (0, 0))), (3, (.inl (2147483654, 2147483654), (0, 0))), (4, (.inl (2147483679, 2147483679), (0, 0))), (5, (.inl (2147483648, 2147483679), (0, 0)))], []))])]) 1000000 246 [(67, 0)] ii_x114 = true := by decide +kernel
theorem ic_x114 {l : Launch} {X : fx_X} {Y : fx_Y} {B : fx_B} (he : ai_env X B) : ai_con l X Y B ai_T0 ai_N 246 ii_x114 := ai_case he (fun _ _ _ _ => trivial) ik_x114 ⟨ic_x19 he, ic_x113 he, trivial⟩

def ii_x115 : ai_I := (([.inr (fr 1), .inr (fr 16), .inl (2147483651, 2147483651), .inl (2147483654, 2147483654)], []), ((some (.inl (2147483648, 2147483649)), []), (([4098, 4099, 8194, 8196, 8197, 8198, 8199, 65538, 65539], [17]), 15)))
set_option maxRecDepth 100000 in
theorem ik_x115 : ai_inst (ai_T0, ai_cts [(240, ii_x19), (246, ii_x114)], ai_mem ai_inl, ii_x115.2.2.1, ([65538], [17]), ai_hds [(67, [((0, (5, 0)), ([(0, (.inr (fr 1), (0, 0))), (1, (.inr (fr 16), (0, 0))), (2, (.inl (2147483651, 2147483651), (0, 0))), (3, (.inl (2147483654, 2147483654), (0, 0))), (4, (.inl (2147483679, 2147483679), (0, 0))), (5, (.inl (2147483648, 2147483679), (0, 0)))], []))])]) 1000000 246 [(67, 0)] ii_x115 = true := by decide +kernel
theorem ic_x115 {l : Launch} {X : fx_X} {Y : fx_Y} {B : fx_B} (he : ai_env X B) : ai_con l X Y B ai_T0 ai_N 246 ii_x115 := ai_case he (fun _ _ _ _ => trivial) ik_x115 ⟨ic_x19 he, ic_x114 he, trivial⟩
