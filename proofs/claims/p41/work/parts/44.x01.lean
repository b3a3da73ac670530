def ii_x43 : ai_I := (([.inr (fr 1), .inr (fr 13), .inl (2147483651, 2147483651), .inl (2147483655, 2147483655)], []), ((some (.inl (2147483648, 2147483649)), []), (([4098, 4099, 8194, 8196, 8197, 8198, 8199, 53250, 53251], [14]), 8)))
set_option maxRecDepth 100000 in
theorem ik_x43 : ai_inst (ai_T0, ai_cts [(240, ii_x19), (246, ii_x42)], ai_mem ai_inl, ii_x43.2.2.1, ([53250], [14]), ai_hds [(67, [((0, (5, 0)), ([(0, (.inr (fr 1), (0, 0))), (1, (.inr (fr 13), (0, 0))), (2, (.inl (2147483651, 2147483651), (0, 0))), (3, (.inl (2147483655, 2147483655), (0, 0))), (4, (.inl (2147483679, 2147483679), (0, 0))), (5, (.inl (2147483648, 2147483679), (0, 0)))], []))])]) 1000000 246 [(67, 0)] ii_x43 = true := by decide +kernel
theorem ic_x43 {l : Launch} {X : fx_X} {Y : fx_Y} {B : fx_B} (he : ai_env X B) : ai_con l X Y B ai_T0 ai_N 246 ii_x43 := ai_case he (fun _ _ _ _ => trivial) ik_x43 ⟨ic_x19 he, ic_x42 he, trivial⟩

def ii_x44 : ai_I := (([.inr (fr 1), .inr (fr 13), .inl (2147483655, 2147483655)], []), ((some (.inl (2147483648, 2147483648)), []), (([4098, 4099], []), 2)))
set_option maxRecDepth 100000 in
theorem ik_x44 : ai_inst (ai_T0, ai_cts [], ai_mem ai_inl, ii_x44.2.2.1, ([4098, 4099], []), ai_hds []) 1000000 279 [] ii_x44 = true := by decide +kernel
theorem ic_x44 {l : Launch} {X : fx_X} {Y : fx_Y} {B : fx_B} (he : ai_env X B) : ai_con l X Y B ai_T0 ai_N 279 ii_x44 := ai_case he (fun _ _ _ _ => trivial) ik_x44 trivial

def ii_x45 : ai_I := (([.inr (fr 1), .inr (fr 13), .inl (2147483650, 2147483650), .inl (2147483655, 2147483655)], []), ((some (.inl (2147483648, 2147483649)), []), (([4098, 4099, 8194, 8196, 8197, 8198, 8199, 53250, 53251], [14]), 9)))
set_option maxRecDepth 100000 in
theorem ik_x45 : ai_inst (ai_T0, ai_cts [(240, ii_x19), (246, ii_x43), (279, ii_x44)], ai_mem ai_inl, ii_x45.2.2.1, ([53250], [14]), ai_hds [(67, [((0, (5, 0)), ([(0, (.inr (fr 1), (0, 0))), (1, (.inr (fr 13), (0, 0))), (2, (.inl (2147483650, 2147483650), (0, 0))), (3, (.inl (2147483655, 2147483655), (0, 0))), (4, (.inl (2147483649, 2147483649), (0, 0))), (5, (.inl (2147483648, 2147483649), (0, 0)))], [(4096, (.inr (fr 2), (0, 0)))]))])]) 1000000 246 [(67, 0)] ii_x45 = true := by decide +kernel
theorem ic_x45 {l : Launch} {X : fx_X} {Y : fx_Y} {B : fx_B} (he : ai_env X B) : ai_con l X Y B ai_T0 ai_N 246 ii_x45 := ai_case he (fun _ _ _ _ => trivial) ik_x45 ⟨ic_x19 he, ic_x43 he, ic_x44 he, trivial⟩

def ii_x46 : ai_I := (([.inr (fr 1), .inr (fr 13), .inl (2147483649, 2147483649), .inl (2147483655, 2147483655)], []), ((some (.inl (2147483648, 2147483649)), []), (([4098, 4099, 8194, 8196, 8197, 8198, 8199, 53250, 53251], [14]), 10)))
set_option maxRecDepth 100000 in
theorem ik_x46 : ai_inst (ai_T0, ai_cts [(240, ii_x19), (246, ii_x45)], ai_mem ai_inl, ii_x46.2.2.1, ([53250], [14]), ai_hds [(67, [((0, (5, 0)), ([(0, (.inr (fr 1), (0, 0))), (1, (.inr (fr 13), (0, 0))), (2, (.inl (2147483649, 2147483649), (0, 0))), (3, (.inl (2147483655, 2147483655), (0, 0))), (4, (.inl (2147483679, 2147483679), (0, 0))), (5, (.inl (2147483648, 2147483679), (0, 0)))], []))])]) 1000000 246 [(67, 0)] ii_x46 = true := by decide +kernel
theorem ic_x46 {l : Launch} {X : fx_X} {Y : fx_Y} {B : fx_B} (he : ai_env X B) : ai_con l X Y B ai_T0 ai_N 246 ii_x46 := ai_case he (fun _ _ _ _ => trivial) ik_x46 ⟨ic_x19 he, ic_x45 he, trivial⟩

def ii_x47 : ai_I := (([.inr (fr 1), .inr (fr 13), .inl (2147483648, 2147483648), .inl (2147483655, 2147483655)], []), ((some (.inl (2147483648, 2147483649)), []), (([4098, 4099, 8194, 8196, 8197, 8198, 8199, 53250, 53251], [14]), 11)))
set_option maxRecDepth 100000 in
theorem ik_x47 : ai_inst (ai_T0, ai_cts [(240, ii_x19), (246, ii_x46)], ai_mem ai_inl, ii_x47.2.2.1, ([53250], [14]), ai_hds [(67, [((0, (5, 0)), ([(0, (.inr (fr 1), (0, 0))), (1, (.inr (fr 13), (0, 0))), (2, (.inl (2147483648, 2147483648), (0, 0))), (3, (.inl (2147483655, 2147483655), (0, 0))), (4, (.inl (2147483679, 2147483679), (0, 0))), (5, (.inl (2147483648, 2147483679), (0, 0)))], []))])]) 1000000 246 [(67, 0)] ii_x47 = true := by decide +kernel
theorem ic_x47 {l : Launch} {X : fx_X} {Y : fx_Y} {B : fx_B} (he : ai_env X B) : ai_con l X Y B ai_T0 ai_N 246 ii_x47 := ai_case he (fun _ _ _ _ => trivial) ik_x47 ⟨ic_x19 he, ic_x46 he, trivial⟩

def ii_x48 : ai_I := (([.inr (fr 1), .inr (fr 13), .inl (2147483654, 2147483654)], []), ((some (.inl (2147483648, 2147483649)), []), (([4098, 4099, 8194, 8196, 8197, 8198, 8199, 53250, 53251], [14]), 12)))
set_option maxRecDepth 100000 in
theorem ik_x48 : ai_inst (ai_T0, ai_cts [(240, ii_x19), (246, ii_x47), (247, ii_x21)], ai_mem ai_inl, ii_x48.2.2.1, ([4098, 4099, 53250, 53251], [14]), ai_hds []) 1000000 278 [] ii_x48 = true := by decide +kernel
theorem ic_x48 {l : Launch} {X : fx_X} {Y : fx_Y} {B : fx_B} (he : ai_env X B) : ai_con l X Y B ai_T0 ai_N 278 ii_x48 := ai_case he (fun _ _ _ _ => trivial) ik_x48 ⟨ic_x19 he, ic_x47 he, ic_x21 he, trivial⟩

def ii_x49 : ai_I := (([.inr (fr 1), .inr (fr 13), .inl (2147483653, 2147483653), .inl (2147483654, 2147483654)], []), ((some (.inl (2147483648, 2147483649)), []), (([4098, 4099, 8194, 8196, 8197, 8198, 8199, 53250, 53251], [14]), 13)))
set_option maxRecDepth 100000 in
theorem ik_x49 : ai_inst (ai_T0, ai_cts [(278, ii_x48)], ai_mem ai_inl, ii_x49.2.2.1, ([], []), ai_hds []) 1000000 246 [(67, 0)] ii_x49 = true := by decide +kernel
theorem ic_x49 {l : Launch} {X : fx_X} {Y : fx_Y} {B : fx_B} (he : ai_env X B) : ai_con l X Y B ai_T0 ai_N 246 ii_x49 := ai_case he (fun _ _ _ _ => trivial) ik_x49 ⟨ic_x48 he, trivial⟩

def ii_x50 : ai_I := (([.inr (fr 1), .inr (fr 13), .inl (2147483652, 2147483652), .inl (2147483654, 2147483654)], []), ((some (.inl (2147483648, 2147483649)), []), (([4098, 4099, 8194, 8196, 8197, 8198, 8199, 53250, 53251], [14]), 14)))
set_option maxRecDepth 100000 in
theorem ik_x50 : ai_inst (ai_T0, ai_cts [(240, ii_x19), (246, ii_x49)], ai_mem ai_inl, ii_x50.2.2.1, ([53250], [14]), ai_hds [(67, [((0, (5, 0)), ([(0, (.inr (fr 1), (0, 0))), (1, (.inr (fr 13), (0, 0))), (2, (.inl (2147483652, 2147483652), (0, 0))), (3, (.inl (2147483654, 2147483654), (0, 0))), (4, (.inl (2147483679, 2147483679), (0, 0))), (5, (.inl (2147483648, 2147483679), (0, 0)))], []))])]) 1000000 246 [(67, 0)] ii_x50 = true := by decide +kernel
theorem ic_x50 {l : Launch} {X : fx_X} {Y : fx_Y} {B : fx_B} (he : ai_env X B) : ai_con l X Y B ai_T0 ai_N 246 ii_x50 := ai_case he (fun _ _ _ _ => trivial) ik_x50 ⟨ic_x19 he, ic_x49 he, trivial⟩

def ii_x51 : ai_I := (([.inr (fr 1), .inr (fr 13), .inl (2147483651, 2147483651), .inl (2147483654, 2147483654)], []), ((some (.inl (2147483648, 2147483649)), []), (([4098, 4099, 8194, 8196, 8197, 8198, 8199, 53250, 53251], [14]), 15)))
set_option maxRecDepth 100000 in
theorem ik_x51 : ai_inst (ai_T0, ai_cts [(240, ii_x19), (246, ii_x50)], ai_mem ai_inl, ii_x51.2.2.1, ([53250], [14]), ai_hds [(67, [((0, (5, 0)), ([(0, (.inr (fr 1), (0, 0))), (1, (.inr (fr 13), (0, 0))), (2, (.inl (2147483651, 2147483651), (0, 0))), (3, (.inl (2147483654, 2147483654), (0, 0))), (4, (.inl (2147483679, 2147483679), (0, 0))), (5, (.inl (2147483648, 2147483679), (0, 0)))], []))])]) 1000000 246 [(67, 0)] ii_x51 = true := by decide +kernel
theorem ic_x51 {l : Launch} {X : fx_X} {Y : fx_Y} {B : fx_B} (he : ai_env X B) : ai_con l X Y B ai_T0 ai_N 246 ii_x51 := ai_case he (fun _ _ _ _ => trivial) ik_x51 ⟨ic_x19 he, ic_x50 he, trivial⟩

def ii_x52 : ai_I := (([.inr (fr 1), .inr (fr 13), .inl (2147483654, 2147483654)], []), ((some (.inl (2147483648, 2147483649)), []), (([4098, 4099, 8194, 8196, 8197, 8198, 8199, 53250, 53251], [14]), 10)))
set_option maxRecDepth 100000 in
theorem ik_x52 : ai_inst (ai_T0, ai_cts [(240, ii_x19), (246, ii_x45)], ai_mem ai_inl, ii_x52.2.2.1, ([53250], [14]), ai_hds []) 1000000 279 [] ii_x52 = true := by decide +kernel
theorem ic_x52 {l : Launch} {X : fx_X} {Y : fx_Y} {B : fx_B} (he : ai_env X B) : ai_con l X Y B ai_T0 ai_N 279 ii_x52 := ai_case he (fun _ _ _ _ => trivial) ik_x52 ⟨ic_x19 he, ic_x45 he, trivial⟩

def ii_x53 : ai_I := (([.inr (fr 1), .inr (fr 13), .inl (2147483650, 2147483650), .inl (2147483654, 2147483654)], []), ((some (.inl (2147483648, 2147483649)), []), (([4098, 4099, 8194, 8196, 8197, 8198, 8199, 53250, 53251], [14]), 16)))
set_option maxRecDepth 100000 in
theorem ik_x53 : ai_inst (ai_T0, ai_cts [(240, ii_x19), (246, ii_x51), (279, ii_x52)], ai_mem ai_inl, ii_x53.2.2.1, ([53250], [14]), ai_hds [(67, [((0, (5, 0)), ([(0, (.inr (fr 1), (0, 0))), (1, (.inr (fr 13), (0, 0))), (2, (.inl (2147483650, 2147483650), (0, 0))), (3, (.inl (2147483654, 2147483654), (0, 0))), (4, (.inl (2147483649, 2147483649), (0, 0))), (5, (.inl (2147483648, 2147483649), (0, 0)))], [(4096, (.inr (fr 2), (0, 0)))]))])]) 1000000 246 [(67, 0)] ii_x53 = true := by decide +kernel
theorem ic_x53 {l : Launch} {X : fx_X} {Y : fx_Y} {B : fx_B} (he : ai_env X B) : ai_con l X Y B ai_T0 ai_N 246 ii_x53 := ai_case he (fun _ _ _ _ => trivial) ik_x53 ⟨ic_x19 he, ic_x51 he, ic_x52 he, trivial⟩

def ii_x54 : ai_I := (([.inr (fr 1), .inr (fr 13), .inl (2147483649, 2147483649), .inl (2147483654, 2147483654)], []), ((some (.inl (2147483648, 2147483649)), []), (([4098, 4099, 8194, 8196, 8197, 8198, 8199, 53250, 53251], [14]), 17)))
set_option maxRecDepth 100000 in
theorem ik_x54 : ai_inst (ai_T0, ai_cts [(240, ii_x19), (246, ii_x53)], ai_mem ai_inl, ii_x54.2.2.1, ([53250], [14]), ai_hds [(67, [((0, (5, 0)), ([(0, (.inr (fr 1), (0, 0))), (1, (.inr (fr 13), (0, 0))), (2, (.inl (2147483649, 2147483649), (0, 0))), (3, (.inl (2147483654, 2147483654), (0, 0))), (4, (.inl (2147483679, 2147483679), (0, 0))), (5, (.inl (2147483648, 2147483679), (0, 0)))], []))])]) 1000000 246 [(67, 0)] ii_x54 = true := by decide +kernel
theorem ic_x54 {l : Launch} {X : fx_X} {Y : fx_Y} {B : fx_B} (he : ai_env X B) : ai_con l X Y B ai_T0 ai_N 246 ii_x54 := ai_case he (fun _ _ _ _ => trivial) ik_x54 ⟨ic_x19 he, ic_x53 he, trivial⟩

def ii_x55 : ai_I := (([.inr (fr 1), .inr (fr 13), .inl (2147483648, 2147483648), .inl (2147483654, 2147483654)], []), ((some (.inl (2147483648, 2147483649)), []), (([4098, 4099, 8194, 8196, 8197, 8198, 8199, 53250, 53251], [14]), 18)))
set_option maxRecDepth 100000 in
theorem ik_x55 : ai_inst (ai_T0, ai_cts [(240, ii_x19), (246, ii_x54)], ai_mem ai_inl, ii_x55.2.2.1, ([53250], [14]), ai_hds [(67, [((0, (5, 0)), ([(0, (.inr (fr 1), (0, 0))), (1, (.inr (fr 13), (0, 0))), (2, (.inl (2147483648, 2147483648), (0, 0))), (3, (.inl (2147483654, 2147483654), (0, 0))), (4, (.inl (2147483679, 2147483679), (0, 0))), (5, (.inl (2147483648, 2147483679), (0, 0)))], []))])]) 1000000 246 [(67, 0)] ii_x55 = true := by decide +kernel
theorem ic_x55 {l : Launch} {X : fx_X} {Y : fx_Y} {B : fx_B} (he : ai_env X B) : ai_con l X Y B ai_T0 ai_N 246 ii_x55 := ai_case he (fun _ _ _ _ => trivial) ik_x55 ⟨ic_x19 he, ic_x54 he, trivial⟩

def ii_x56 : ai_I := (([.inr (fr 1), .inr (fr 13), .inl (2147483653, 2147483653)], []), ((some (.inl (2147483648, 2147483649)), []), (([4098, 4099, 8194, 8196, 8197, 8198, 8199, 53250, 53251], [14]), 19)))
set_option maxRecDepth 100000 in
theorem ik_x56 : ai_inst (ai_T0, ai_cts [(240, ii_x19), (246, ii_x55), (247, ii_x21)], ai_mem ai_inl, ii_x56.2.2.1, ([4098, 4099, 53250, 53251], [14]), ai_hds []) 1000000 278 [] ii_x56 = true := by decide +kernel
theorem ic_x56 {l : Launch} {X : fx_X} {Y : fx_Y} {B : fx_B} (he : ai_env X B) : ai_con l X Y B ai_T0 ai_N 278 ii_x56 := ai_case he (fun _ _ _ _ => trivial) ik_x56 ⟨ic_x19 he, ic_x55 he, ic_x21 he, trivial⟩

def ii_x57 : ai_I := (([.inr (fr 1), .inr (fr 13), .inl (2147483653, 2147483653), .inl (2147483653, 2147483653)], []), ((some (.inl (2147483648, 2147483649)), []), (([4098, 4099, 8194, 8196, 8197, 8198, 8199, 53250, 53251], [14]), 20)))
set_option maxRecDepth 100000 in
theorem ik_x57 : ai_inst (ai_T0, ai_cts [(278, ii_x56)], ai_mem ai_inl, ii_x57.2.2.1, ([], []), ai_hds []) 1000000 246 [(67, 0)] ii_x57 = true := by decide +kernel
theorem ic_x57 {l : Launch} {X : fx_X} {Y : fx_Y} {B : fx_B} (he : ai_env X B) : ai_con l X Y B ai_T0 ai_N 246 ii_x57 := ai_case he (fun _ _ _ _ => trivial) ik_x57 ⟨ic_x56 he, trivial⟩

def ii_x58 : ai_I := (([.inr (fr 1), .inr (fr 13), .inl (2147483652, 2147483652), .inl (2147483653, 2147483653)], []), ((some (.inl (2147483648, 2147483649)), []), (([4098, 4099, 8194, 8196, 8197, 8198, 8199, 53250, 53251], [14]), 21)))
set_option maxRecDepth 100000 in
theorem ik_x58 : ai_inst (ai_T0, ai_cts [(240, ii_x19), (246, ii_x57)], ai_mem ai_inl, ii_x58.2.2.1, ([53250], [14]), ai_hds [(67, [((0, (5, 0)), ([(0, (.inr (fr 1), (0, 0))), (1, (.inr (fr 13), (0, 0))), (2, (.inl (2147483652, 2147483652), (0, 0))), (3, (.inl (2147483653, 2147483653), (0, 0))), (4, (.inl (2147483679, 2147483679), (0, 0))), (5, (.inl (2147483648, 2147483679), (0, 0)))], []))])]) 1000000 246 [(67, 0)] ii_x58 = true := by decide +kernel
theorem ic_x58 {l : Launch} {X : fx_X} {Y : fx_Y} {B : fx_B} (he : ai_env X B) : ai_con l X Y B ai_T0 ai_N 246 ii_x58 := ai_case he (fun _ _ _ _ => trivial) ik_x58 ⟨ic_x19 he, ic_x57 he, trivial⟩

def ii_x59 : ai_I := (([.inr (fr 1), .inr (fr 13), .inl (2147483651, 2147483651), .inl (2147483653, 2147483653)], []), ((some (.inl (2147483648, 2147483649)), []), (([4098, 4099, 8194, 8196, 8197, 8198, 8199, 53250, 53251], [14]), 22)))
set_option maxRecDepth 100000 in
theorem ik_x59 : ai_inst (ai_T0, ai_cts [(240, ii_x19), (246, ii_x58)], ai_mem ai_inl, ii_x59.2.2.1, ([53250], [14]), ai_hds [(67, [((0, (5, 0)), ([(0, (.inr (fr 1), (0, 0))), (1, (.inr (fr 13), (0, 0))), (2, (.inl (2147483651, 2147483651), (0, 0))), (3, (.inl (2147483653, 2147483653), (0, 0))), (4, (.inl (2147483679, 2147483679), (0, 0))), (5, (.inl (2147483648, 2147483679), (0, 0)))], []))])]) 1000000 246 [(67, 0)] ii_x59 = true := by decide +kernel
theorem ic_x59 {l : Launch} {X : fx_X} {Y : fx_Y} {B : fx_B} (he : ai_env X B) : ai_con l X Y B ai_T0 ai_N 246 ii_x59 := ai_case he (fun _ _ _ _ => trivial) ik_x59 ⟨ic_x19 he, ic_x58 he, trivial⟩

def ii_x60 : ai_I := (([.inr (fr 1), .inr (fr 13), .inl (2147483653, 2147483653)], []), ((some (.inl (2147483648, 2147483649)), []), (([4098, 4099, 8194, 8196, 8197, 8198, 8199, 53250, 53251], [14]), 17)))
set_option maxRecDepth 100000 in
theorem ik_x60 : ai_inst (ai_T0, ai_cts [(240, ii_x19), (246, ii_x53)], ai_mem ai_inl, ii_x60.2.2.1, ([53250], [14]), ai_hds []) 1000000 279 [] ii_x60 = true := by decide +kernel
theorem ic_x60 {l : Launch} {X : fx_X} {Y : fx_Y} {B : fx_B} (he : ai_env X B) : ai_con l X Y B ai_T0 ai_N 279 ii_x60 := ai_case he (fun _ _ _ _ => trivial) ik_x60 ⟨ic_x19 he, ic_x53 he, trivial⟩

def ii_x61 : ai_I := (([.inr (fr 1), .inr (fr 13), .inl (2147483650, 2147483650), .inl (2147483653, 2147483653)], []), ((some (.inl (2147483648, 2147483649)), []), (([4098, 4099, 8194, 8196, 8197, 8198, 8199, 53250, 53251], [14]), 23)))
set_option maxRecDepth 100000 in
theorem ik_x61 : ai_inst (ai_T0, ai_cts [(240, ii_x19), (246, ii_x59), (279, ii_x60)], ai_mem ai_inl, ii_x61.2.2.1, ([53250], [14]), ai_hds [(67, [((0, (5, 0)), ([(0, (.inr (fr 1), (0, 0))), (1, (.inr (fr 13), (0, 0))), (2, (.inl (2147483650, 2147483650), (0, 0))), (3, (.inl (2147483653, 2147483653), (0, 0))), (4, (.inl (2147483649, 2147483649), (0, 0))), (5, (.inl (2147483648, 2147483649), (0, 0)))], [(4096, (.inr (fr 2), (0, 0)))]))])]) 1000000 246 [(67, 0)] ii_x61 = true := by decide +kernel
theorem ic_x61 {l : Launch} {X : fx_X} {Y : fx_Y} {B : fx_B} (he : ai_env X B) : ai_con l X Y B ai_T0 ai_N 246 ii_x61 := ai_case he (fun _ _ _ _ => trivial) ik_x61 ⟨ic_x19 he, ic_x59 he, ic_x60 he, trivial⟩

def ii_x62 : ai_I := (([.inr (fr 1), .inr (fr 13), .inl (2147483649, 2147483649), .inl (2147483653, 2147483653)], []), ((some (.inl (2147483648, 2147483649)), []), (([4098, 4099, 8194, 8196, 8197, 8198, 8199, 53250, 53251], [14]), 24)))
set_option maxRecDepth 100000 in
theorem ik_x62 : ai_inst (ai_T0, ai_cts [(240, ii_x19), (246, ii_x61)], ai_mem ai_inl, ii_x62.2.2.1, ([53250], [14]), ai_hds [(67, [((0, (5, 0)), ([(0, (.inr (fr 1), (0, 0))), (1, (.inr (fr 13), (0, 0))), (2, (.inl (2147483649, 2147483649), (0, 0))), (3, (.inl (2147483653, 2147483653), (0, 0))), (4, (.inl (2147483679, 2147483679), (0, 0))), (5, (.inl (2147483648, 2147483679), (0, 0)))], []))])]) 1000000 246 [(67, 0)] ii_x62 = true := by decide +kernel
theorem ic_x62 {l : Launch} {X : fx_X} {Y : fx_Y} {B : fx_B} (he : ai_env X B) : ai_con l X Y B ai_T0 ai_N 246 ii_x62 := ai_case he (fun _ _ _ _ => trivial) ik_x62 ⟨ic_x19 he, ic_x61 he, trivial⟩

def ii_x63 : ai_I := (([.inr (fr 1), .inr (fr 13), .inl (2147483648, 2147483648), .inl (2147483653, 2147483653)], []), ((some (.inl (2147483648, 2147483649)), []), (([4098, 4099, 8194, 8196, 8197, 8198, 8199, 53250, 53251], [14]), 25)))
set_option maxRecDepth 100000 in
theorem ik_x63 : ai_inst (ai_T0, ai_cts [(240, ii_x19), (246, ii_x62)], ai_mem ai_inl, ii_x63.2.2.1, ([53250], [14]), ai_hds [(67, [((0, (5, 0)), ([(0, (.inr (fr 1), (0, 0))), (1, (.inr (fr 13), (0, 0))), (2, (.inl (2147483648, 2147483648), (0, 0))), (3, (.inl (2147483653, 2147483653), (0, 0))), (4, (.inl (2147483679, 2147483679), (0, 0))), (5, (.inl (2147483648, 2147483679), (0, 0)))], []))])]) 1000000 246 [(67, 0)] ii_x63 = true := by decide +kernel
theorem ic_x63 {l : Launch} {X : fx_X} {Y : fx_Y} {B : fx_B} (he : ai_env X B) : ai_con l X Y B ai_T0 ai_N 246 ii_x63 := ai_case he (fun _ _ _ _ => trivial) ik_x63 ⟨ic_x19 he, ic_x62 he, trivial⟩

def ii_x64 : ai_I := (([.inr (fr 1), .inr (fr 13), .inl (2147483652, 2147483652)], []), ((some (.inl (2147483648, 2147483649)), []), (([4098, 4099, 8194, 8196, 8197, 8198, 8199, 53250, 53251], [14]), 26)))
set_option maxRecDepth 100000 in
theorem ik_x64 : ai_inst (ai_T0, ai_cts [(240, ii_x19), (246, ii_x63), (247, ii_x21)], ai_mem ai_inl, ii_x64.2.2.1, ([4098, 4099, 53250, 53251], [14]), ai_hds []) 1000000 278 [] ii_x64 = true := by decide +kernel
theorem ic_x64 {l : Launch} {X : fx_X} {Y : fx_Y} {B : fx_B} (he : ai_env X B) : ai_con l X Y B ai_T0 ai_N 278 ii_x64 := ai_case he (fun _ _ _ _ => trivial) ik_x64 ⟨ic_x19 he, ic_x63 he, ic_x21 he, trivial⟩

def ii_x65 : ai_I := (([.inr (fr 1), .inr (fr 13), .inl (2147483653, 2147483653), .inl (2147483652, 2147483652)], []), ((some (.inl (2147483648, 2147483649)), []), (([4098, 4099, 8194, 8196, 8197, 8198, 8199, 53250, 53251], [14]), 27)))
set_option maxRecDepth 100000 in
theorem ik_x65 : ai_inst (ai_T0, ai_cts [(278, ii_x64)], ai_mem ai_inl, ii_x65.2.2.1, ([], []), ai_hds []) 1000000 246 [(67, 0)] ii_x65 = true := by decide +kernel
theorem ic_x65 {l : Launch} {X : fx_X} {Y : fx_Y} {B : fx_B} (he : ai_env X B) : ai_con l X Y B ai_T0 ai_N 246 ii_x65 := ai_case he (fun _ _ _ _ => trivial) ik_x65 ⟨ic_x64 he, trivial⟩

def ii_x66 : ai_I := (([.inr (fr 1), .inr (fr 13), .inl (2147483652, 2147483652), .inl (2147483652, 2147483652)], []), ((some (.inl (2147483648, 2147483649)), []), (([4098, 4099, 8194, 8196, 8197, 8198, 8199, 53250, 53251], [14]), 28)))
set_option maxRecDepth 100000 in
theorem ik_x66 : ai_inst (ai_T0, ai_cts [(240, ii_x19), (246, ii_x65)], ai_mem ai_inl, ii_x66.2.2.1, ([53250], [14]), ai_hds [(67, [((0, (5, 0)), ([(0, (.inr (fr 1), (0, 0))), (1, (.inr (fr 13), (0, 0))), (2, (.inl (2147483652, 2147483652), (0, 0))), (3, (.inl (2147483652, 2147483652), (0, 0))), (4, (.inl (2147483679, 2147483679), (0, 0))), (5, (.inl (2147483648, 2147483679), (0, 0)))], []))])]) 1000000 246 [(67, 0)] ii_x66 = true := by decide +kernel
theorem ic_x66 {l : Launch} {X : fx_X} {Y : fx_Y} {B : fx_B} (he : ai_env X B) : ai_con l X Y B ai_T0 ai_N 246 ii_x66 := ai_case he (fun _ _ _ _ => trivial) ik_x66 ⟨ic_x19 he, ic_x65 he, trivial⟩

def ii_x67 : ai_I := (([.inr (fr 1), .inr (fr 13), .inl (2147483651, 2147483651), .inl (2147483652, 2147483652)], []), ((some (.inl (2147483648, 2147483649)), []), (([4098, 4099, 8194, 8196, 8197, 8198, 8199, 53250, 53251], [14]), 29)))
set_option maxRecDepth 100000 in
theorem ik_x67 : ai_inst (ai_T0, ai_cts [(240, ii_x19), (246, ii_x66)], ai_mem ai_inl, ii_x67.2.2.1, ([53250], [14]), ai_hds [(67, [((0, (5, 0)), ([(0, (.inr (fr 1), (0, 0))), (1, (.inr (fr 13), (0, 0))), (2, (.inl (2147483651, 2147483651), (0, 0))), (3, (.inl (2147483652, 2147483652), (0, 0))), (4, (.inl (2147483679, 2147483679), (0, 0))), (5, (.inl (2147483648, 2147483679), (0, 0)))], []))])]) 1000000 246 [(67, 0)] ii_x67 = true := by decide +kernel
theorem ic_x67 {l : Launch} {X : fx_X} {Y : fx_Y} {B : fx_B} (he : ai_env X B) : ai_con l X Y B ai_T0 ai_N 246 ii_x67 := ai_case he (fun _ _ _ _ => trivial) ik_x67 ⟨ic_x19 he, ic_x66 he, trivial⟩

def ii_x68 : ai_I := (([.inr (fr 1), .inr (fr 13), .inl (2147483652, 2147483652)], []), ((some (.inl (2147483648, 2147483649)), []), (([4098, 4099, 8194, 8196, 8197, 8198, 8199, 53250, 53251], [14]), 24)))
set_option maxRecDepth 100000 in
theorem ik_x68 : ai_inst (ai_T0, ai_cts [(240, ii_x19), (246, ii_x61)], ai_mem ai_inl, ii_x68.2.2.1, ([53250], [14]), ai_hds []) 1000000 279 [] ii_x68 = true := by decide +kernel
theorem ic_x68 {l : Launch} {X : fx_X} {Y : fx_Y} {B : fx_B} (he : ai_env X B) : ai_con l X Y B ai_T0 ai_N 279 ii_x68 := ai_case he (fun _ _ _ _ => trivial) ik_x68 ⟨ic_x19 he, ic_x61 he, trivial⟩

def ii_x69 : ai_I := (([.inr (fr 1), .inr (fr 13), .inl (2147483650, 2147483650), .inl (2147483652, 2147483652)], []), ((some (.inl (2147483648, 2147483649)), []), (([4098, 4099, 8194, 8196, 8197, 8198, 8199, 53250, 53251], [14]), 30)))
set_option maxRecDepth 100000 in
theorem ik_x69 : ai_inst (ai_T0, ai_cts [(240, ii_x19), (246, ii_x67), (279, ii_x68)], ai_mem ai_inl, ii_x69.2.2.1, ([53250], [14]), ai_hds [(67, [((0, (5, 0)), ([(0, (.inr (fr 1), (0, 0))), (1, (.inr (fr 13), (0, 0))), (2, (.inl (2147483650, 2147483650), (0, 0))), (3, (.inl (2147483652, 2147483652), (0, 0))), (4, (.inl (2147483649, 2147483649), (0, 0))), (5, (.inl (2147483648, 2147483649), (0, 0)))], [(4096, (.inr (fr 2), (0, 0)))]))])]) 1000000 246 [(67, 0)] ii_x69 = true := by decide +kernel
theorem ic_x69 {l : Launch} {X : fx_X} {Y : fx_Y} {B : fx_B} (he : ai_env X B) : ai_con l X Y B ai_T0 ai_N 246 ii_x69 := ai_case he (fun _ _ _ _ => trivial) ik_x69 ⟨ic_x19 he, ic_x67 he, ic_x68 he, trivial⟩

def ii_x70 : ai_I := (([.inr (fr 1), .inr (fr 13), .inl (2147483649, 2147483649), .inl (2147483652, 2147483652)], []), ((some (.inl (2147483648, 2147483649)), []), (([4098, 4099, 8194, 8196, 8197, 8198, 8199, 53250, 53251], [14]), 31)))
set_option maxRecDepth 100000 in
theorem ik_x70 : ai_inst (ai_T0, ai_cts [(240, ii_x19), (246, ii_x69)], ai_mem ai_inl, ii_x70.2.2.1, ([53250], [14]), ai_hds [(67, [((0, (5, 0)), ([(0, (.inr (fr 1), (0, 0))), (1, (.inr (fr 13), (0, 0))), (2, (.inl (2147483649, 2147483649), (0, 0))), (3, (.inl (2147483652, 2147483652), (0, 0))), (4, (.inl (2147483679, 2147483679), (0, 0))), (5, (.inl (2147483648, 2147483679), (0, 0)))], []))])]) 1000000 246 [(67, 0)] ii_x70 = true := by decide +kernel
theorem ic_x70 {l : Launch} {X : fx_X} {Y : fx_Y} {B : fx_B} (he : ai_env X B) : ai_con l X Y B ai_T0 ai_N 246 ii_x70 := ai_case he (fun _ _ _ _ => trivial) ik_x70 ⟨ic_x19 he, ic_x69 he, trivial⟩

def ii_x71 : ai_I := (([.inr (fr 1), .inr (fr 13), .inl (2147483648, 2147483648), .inl (2147483652, 2147483652)], []), ((some (.inl (2147483648, 2147483649)), []), (([4098, 4099, 8194, 8196, 8197, 8198, 8199, 53250, 53251], [14]), 32)))
set_option maxRecDepth 100000 in
theorem ik_x71 : ai_inst (ai_T0, ai_cts [(240, ii_x19), (246, ii_x70)], ai_mem ai_inl, ii_x71.2.2.1, ([53250], [14]), ai_hds [(67, [((0, (5, 0)), ([(0, (.inr (fr 1), (0, 0))), (1, (.inr (fr 13), (0, 0))), (2, (.inl (2147483648, 2147483648), (0, 0))), (3, (.inl (2147483652, 2147483652), (0, 0))), (4, (.inl (2147483679, 2147483679), (0, 0))), (5, (.inl (2147483648, 2147483679), (0, 0)))], []))])]) 1000000 246 [(67, 0)] ii_x71 = true := by decide +kernel
theorem ic_x71 {l : Launch} {X : fx_X} {Y : fx_Y} {B : fx_B} (he : ai_env X B) : ai_con l X Y B ai_T0 ai_N 246 ii_x71 := ai_case he (fun _ _ _ _ => trivial) ik_x71 ⟨ic_x19 he, ic_x70 he, trivial⟩

def ii_x72 : ai_I := (([.inr (fr 1), .inr (fr 13), .inl (2147483651, 2147483651)], []), ((some (.inl (2147483648, 2147483649)), []), (([4098, 4099, 8194, 8196, 8197, 8198, 8199, 53250, 53251], [14]), 33)))
set_option maxRecDepth 100000 in
theorem ik_x72 : ai_inst (ai_T0, ai_cts [(240, ii_x19), (246, ii_x71), (247, ii_x21)], ai_mem ai_inl, ii_x72.2.2.1, ([4098, 4099, 53250, 53251], [14]), ai_hds []) 1000000 278 [] ii_x72 = true := by decide +kernel
theorem ic_x72 {l : Launch} {X : fx_X} {Y : fx_Y} {B : fx_B} (he : ai_env X B) : ai_con l X Y B ai_T0 ai_N 278 ii_x72 := ai_case he (fun _ _ _ _ => trivial) ik_x72 ⟨ic_x19 he, ic_x71 he, ic_x21 he, trivial⟩

def ii_x73 : ai_I := (([.inr (fr 1), .inr (fr 13), .inl (2147483653, 2147483653), .inl (2147483651, 2147483651)], []), ((some (.inl (2147483648, 2147483649)), []), (([4098, 4099, 8194, 8196, 8197, 8198, 8199, 53250, 53251], [14]), 34)))
set_option maxRecDepth 100000 in
theorem ik_x73 : ai_inst (ai_T0, ai_cts [(278, ii_x72)], ai_mem ai_inl, ii_x73.2.2.1, ([], []), ai_hds []) 1000000 246 [(67, 0)] ii_x73 = true := by decide +kernel
theorem ic_x73 {l : Launch} {X : fx_X} {Y : fx_Y} {B : fx_B} (he : ai_env X B) : ai_con l X Y B ai_T0 ai_N 246 ii_x73 := ai_case he (fun _ _ _ _ => trivial) ik_x73 ⟨ic_x72 he, trivial⟩

def ii_x74 : ai_I := (([.inr (fr 1), .inr (fr 13), .inl (2147483652, 2147483652), .inl (2147483651, 2147483651)], []), ((some (.inl (2147483648, 2147483649)), []), (([4098, 4099, 8194, 8196, 8197, 8198, 8199, 53250, 53251], [14]), 35)))
set_option maxRecDepth 100000 in
theorem ik_x74 : ai_inst (ai_T0, ai_cts [(240, ii_x19), (246, ii_x73)], ai_mem ai_inl, ii_x74.2.2.1, ([53250], [14]), ai_hds [(67, [((0, (5, 0)), ([(0, (.inr (fr 1), (0, 0))), (1, (.inr (fr 13), (0, 0))), (2, (.inl (2147483652, 2147483652), (0, 0))), (3, (.inl (2147483651, 2147483651), (0, 0))), (4, (.inl (2147483679, 2147483679), (0, 0))), (5, (.inl (2147483648, 2147483679), (0, 0)))], []))])]) 1000000 246 [(67, 0)] ii_x74 = true := by decide +kernel
theorem ic_x74 {l : Launch} {X : fx_X} {Y : fx_Y} {B : fx_B} (he : ai_env X B) : ai_con l X Y B ai_T0 ai_N 246 ii_x74 := ai_case he (fun _ _ _ _ => trivial) ik_x74 ⟨ic_x19 he, ic_x73 he, trivial⟩

def ii_x75 : ai_I := (([.inr (fr 1), .inr (fr 13), .inl (2147483651, 2147483651), .inl (2147483651, 2147483651)], []), ((some (.inl (2147483648, 2147483649)), []), (([4098, 4099, 8194, 8196, 8197, 8198, 8199, 53250, 53251], [14]), 36)))
set_option maxRecDepth 100000 in
theorem ik_x75 : ai_inst (ai_T0, ai_cts [(240, ii_x19), (246, ii_x74)], ai_mem ai_inl, ii_x75.2.2.1, ([53250], [14]), ai_hds [(67, [((0, (5, 0)), ([(0, (.inr (fr 1), (0, 0))), (1, (.inr (fr 13), (0, 0))), (2, (.inl (2147483651, 2147483651), (0, 0))), (3, (.inl (2147483651, 2147483651), (0, 0))), (4, (.inl (2147483679, 2147483679), (0, 0))), (5, (.inl (2147483648, 2147483679), (0, 0)))], []))])]) 1000000 246 [(67, 0)] ii_x75 = true := by decide +kernel
theorem ic_x75 {l : Launch} {X : fx_X} {Y : fx_Y} {B : fx_B} (he : ai_env X B) : ai_con l X Y B ai_T0 ai_N 246 ii_x75 := ai_case he (fun _ _ _ _ => trivial) ik_x75 ⟨ic_x19 he, ic_x74 he, trivial⟩

def ii_x76 : ai_I := (([.inr (fr 1), .inr (fr 13), .inl (2147483651, 2147483651)], []), ((some (.inl (2147483648, 2147483649)), []), (([4098, 4099, 8194, 8196, 8197, 8198, 8199, 53250, 53251], [14]), 31)))
set_option maxRecDepth 100000 in
theorem ik_x76 : ai_inst (ai_T0, ai_cts [(240, ii_x19), (246, ii_x69)], ai_mem ai_inl, ii_x76.2.2.1, ([53250], [14]), ai_hds []) 1000000 279 [] ii_x76 = true := by decide +kernel
theorem ic_x76 {l : Launch} {X : fx_X} {Y : fx_Y} {B : fx_B} (he : ai_env X B) : ai_con l X Y B ai_T0 ai_N 279 ii_x76 := ai_case he (fun _ _ _ _ => trivial) ik_x76 ⟨ic_x19 he, ic_x69 he, trivial⟩

def ii_x77 : ai_I := (([.inr (fr 1), .inr (fr 13), .inl (2147483650, 2147483650), .inl (2147483651, 2147483651)], []), ((some (.inl (2147483648, 2147483649)), []), (([4098, 4099, 8194, 8196, 8197, 8198, 8199, 53250, 53251], [14]), 37)))
set_option maxRecDepth 100000 in
theorem ik_x77 : ai_inst (ai_T0, ai_cts [(240, ii_x19), (246, ii_x75), (279, ii_x76)], ai_mem ai_inl, ii_x77.2.2.1, ([53250], [14]), ai_hds [(67, [((0, (5, 0)), ([(0, (.inr (fr 1), (0, 0))), (1, (.inr (fr 13), (0, 0))), (2, (.inl (2147483650, 2147483650), (0, 0))), (3, (.inl (2147483651, 2147483651), (0, 0))), (4, (.inl (2147483649, 2147483649), (0, 0))), (5, (.inl (2147483648, 2147483649), (0, 0)))], [(4096, (.inr (fr 2), (0, 0)))]))])]) 1000000 246 [(67, 0)] ii_x77 = true := by decide +kernel
theorem ic_x77 {l : Launch} {X : fx_X} {Y : fx_Y} {B : fx_B} (he : ai_env X B) : ai_con l X Y B ai_T0 ai_N 246 ii_x77 := ai_case he (fun _ _ _ _ => trivial) ik_x77 ⟨ic_x19 he, ic_x75 he, ic_x76 he, trivial⟩

def ii_x78 : ai_I := (([.inr (fr 1), .inr (fr 13), .inl (2147483649, 2147483649), .inl (2147483651, 2147483651)], []), ((some (.inl (2147483648, 2147483649)), []), (([4098, 4099, 8194, 8196, 8197, 8198, 8199, 53250, 53251], [14]), 38)))
set_option maxRecDepth 100000 in
theorem ik_x78 : ai_inst (ai_T0, ai_cts [(240, ii_x19), (246, ii_x77)], ai_mem ai_inl, ii_x78.2.2.1, ([53250], [14]), ai_hds [(67, [((0, (5, 0)), ([(0, (.inr (fr 1), (0, 0))), (1, (.inr (fr 13), (0, 0))), (2, (.inl (2147483649, 2147483649), (0, 0))), (3, (.inl (2147483651, 2147483651), (0, 0))), (4, (.inl (2147483679, 2147483679), (0, 0))), (5, (.inl (2147483648, 2147483679), (0, 0)))], []))])]) 1000000 246 [(67, 0)] ii_x78 = true := by decide +kernel
theorem ic_x78 {l : Launch} {X : fx_X} {Y : fx_Y} {B : fx_B} (he : ai_env X B) : ai_con l X Y B ai_T0 ai_N 246 ii_x78 := ai_case he (fun _ _ _ _ => trivial) ik_x78 ⟨ic_x19 he, ic_x77 he, trivial⟩
