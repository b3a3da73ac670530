def ii_x152 : ai_I := (([.inr (fr 1), .inr (fr 16), .inl (2147483649, 2147483649)], []), ((some (.inl (2147483648, 2147483649)), []), (([4098, 4099, 8194, 8196, 8197, 8198, 8199, 65538, 65539], [17]), 47)))
set_option maxRecDepth 100000 in
theorem ik_x152 : ai_inst (ai_T0, ai_cts [(240, ii_x19), (246, ii_x151), (247, ii_x21)], ai_mem ai_inl, ii_x152.2.2.1, ([4098, 4099, 65538, 65539], [17]), ai_hds []) 1000000 278 [] ii_x152 = true := by decide +kernel
theorem ic_x152 {l : Launch} {X : fx_X} {Y : fx_Y} {B : fx_B} (he : ai_env X B) : ai_con l X Y B ai_T0 ai_N 278 ii_x152 := ai_case he (fun _ _ _ _ => trivial) ik_x152 ⟨ic_x19 he, ic_x151 he, ic_x21 he, trivial⟩

def ii_x153 : ai_I := (([.inr (fr 1), .inr (fr 16), .inl (2147483653, 2147483653), .inl (2147483649, 2147483649)], []), ((some (.inl (2147483648, 2147483649)), []), (([4098, 4099, 8194, 8196, 8197, 8198, 8199, 65538, 65539], [17]), 48)))
set_option maxRecDepth 100000 in
theorem ik_x153 : ai_inst (ai_T0, ai_cts [(278, ii_x152)], ai_mem ai_inl, ii_x153.2.2.1, ([], []), ai_hds []) 1000000 246 [(67, 0)] ii_x153 = true := by decide +kernel
theorem ic_x153 {l : Launch} {X : fx_X} {Y : fx_Y} {B : fx_B} (he : ai_env X B) : ai_con l X Y B ai_T0 ai_N 246 ii_x153 := ai_case he (fun _ _ _ _ => trivial) ik_x153 ⟨ic_x152 he, trivial⟩

def ii_x154 : ai_I := (([.inr (fr 1), .inr (fr 16), .inl (2147483652, 2147483652), .inl (2147483649, 2147483649)], []), ((some (.inl (2147483648, 2147483649)), []), (([4098, 4099, 8194, 8196, 8197, 8198, 8199, 65538, 65539], [17]), 49)))
set_option maxRecDepth 100000 in
theorem ik_x154 : ai_inst (ai_T0, ai_cts [(240, ii_x19), (246, ii_x153)], ai_mem ai_inl, ii_x154.2.2.1, ([65538], [17]), ai_hds [(67, [((0, (5, 0)), ([(0, (.inr (fr 1), (0, 0))), (1, (.inr (fr 16), (0, 0))), (2, (.inl (2147483652, 2147483652), (0, 0))), (3, (.inl (2147483649, 2147483649), (0, 0))), (4, (.inl (2147483679, 2147483679), (0, 0))), (5, (.inl (2147483648, 2147483679), (0, 0)))], []))])]) 1000000 246 [(67, 0)] ii_x154 = true := by decide +kernel
theorem ic_x154 {l : Launch} {X : fx_X} {Y : fx_Y} {B : fx_B} (he : ai_env X B) : ai_con l X Y B ai_T0 ai_N 246 ii_x154 := ai_case he (fun _ _ _ _ => trivial) ik_x154 ⟨ic_x19 he, ic_x153 he, trivial⟩

def ii_x155 : ai_I := (([.inr (fr 1), .inr (fr 16), .inl (2147483651, 2147483651), .inl (2147483649, 2147483649)], []), ((some (.inl (2147483648, 2147483649)), []), (([4098, 4099, 8194, 8196, 8197, 8198, 8199, 65538, 65539], [17]), 50)))
set_option maxRecDepth 100000 in
theorem ik_x155 : ai_inst (ai_T0, ai_cts [(240, ii_x19), (246, ii_x154)], ai_mem ai_inl, ii_x155.2.2.1, ([65538], [17]), ai_hds [(67, [((0, (5, 0)), ([(0, (.inr (fr 1), (0, 0))), (1, (.inr (fr 16), (0, 0))), (2, (.inl (2147483651, 2147483651), (0, 0))), (3, (.inl (2147483649, 2147483649), (0, 0))), (4, (.inl (2147483679, 2147483679), (0, 0))), (5, (.inl (2147483648, 2147483679), (0, 0)))], []))])]) 1000000 246 [(67, 0)] ii_x155 = true := by decide +kernel
theorem ic_x155 {l : Launch} {X : fx_X} {Y : fx_Y} {B : fx_B} (he : ai_env X B) : ai_con l X Y B ai_T0 ai_N 246 ii_x155 := ai_case he (fun _ _ _ _ => trivial) ik_x155 ⟨ic_x19 he, ic_x154 he, trivial⟩

def ii_x156 : ai_I := (([.inr (fr 1), .inr (fr 16), .inl (2147483649, 2147483649)], []), ((some (.inl (2147483648, 2147483649)), []), (([4098, 4099, 8194, 8196, 8197, 8198, 8199, 65538, 65539], [17]), 45)))
set_option maxRecDepth 100000 in
theorem ik_x156 : ai_inst (ai_T0, ai_cts [(240, ii_x19), (246, ii_x149)], ai_mem ai_inl, ii_x156.2.2.1, ([65538], [17]), ai_hds []) 1000000 279 [] ii_x156 = true := by decide +kernel
theorem ic_x156 {l : Launch} {X : fx_X} {Y : fx_Y} {B : fx_B} (he : ai_env X B) : ai_con l X Y B ai_T0 ai_N 279 ii_x156 := ai_case he (fun _ _ _ _ => trivial) ik_x156 ⟨ic_x19 he, ic_x149 he, trivial⟩

def ii_x157 : ai_I := (([.inr (fr 1), .inr (fr 16), .inl (2147483650, 2147483650), .inl (2147483649, 2147483649)], []), ((some (.inl (2147483648, 2147483649)), []), (([4098, 4099, 8194, 8196, 8197, 8198, 8199, 65538, 65539], [17]), 51)))
set_option maxRecDepth 100000 in
theorem ik_x157 : ai_inst (ai_T0, ai_cts [(240, ii_x19), (246, ii_x155), (279, ii_x156)], ai_mem ai_inl, ii_x157.2.2.1, ([65538], [17]), ai_hds [(67, [((0, (5, 0)), ([(0, (.inr (fr 1), (0, 0))), (1, (.inr (fr 16), (0, 0))), (2, (.inl (2147483650, 2147483650), (0, 0))), (3, (.inl (2147483649, 2147483649), (0, 0))), (4, (.inl (2147483649, 2147483649), (0, 0))), (5, (.inl (2147483648, 2147483649), (0, 0)))], [(4096, (.inr (fr 2), (0, 0)))]))])]) 1000000 246 [(67, 0)] ii_x157 = true := by decide +kernel
theorem ic_x157 {l : Launch} {X : fx_X} {Y : fx_Y} {B : fx_B} (he : ai_env X B) : ai_con l X Y B ai_T0 ai_N 246 ii_x157 := ai_case he (fun _ _ _ _ => trivial) ik_x157 ⟨ic_x19 he, ic_x155 he, ic_x156 he, trivial⟩

def ii_x158 : ai_I := (([.inr (fr 1), .inr (fr 16), .inl (2147483649, 2147483649), .inl (2147483649, 2147483649)], []), ((some (.inl (2147483648, 2147483649)), []), (([4098, 4099, 8194, 8196, 8197, 8198, 8199, 65538, 65539], [17]), 52)))
set_option maxRecDepth 100000 in
theorem ik_x158 : ai_inst (ai_T0, ai_cts [(240, ii_x19), (246, ii_x157)], ai_mem ai_inl, ii_x158.2.2.1, ([65538], [17]), ai_hds [(67, [((0, (5, 0)), ([(0, (.inr (fr 1), (0, 0))), (1, (.inr (fr 16), (0, 0))), (2, (.inl (2147483649, 2147483649), (0, 0))), (3, (.inl (2147483649, 2147483649), (0, 0))), (4, (.inl (2147483679, 2147483679), (0, 0))), (5, (.inl (2147483648, 2147483679), (0, 0)))], []))])]) 1000000 246 [(67, 0)] ii_x158 = true := by decide +kernel
theorem ic_x158 {l : Launch} {X : fx_X} {Y : fx_Y} {B : fx_B} (he : ai_env X B) : ai_con l X Y B ai_T0 ai_N 246 ii_x158 := ai_case he (fun _ _ _ _ => trivial) ik_x158 ⟨ic_x19 he, ic_x157 he, trivial⟩

def ii_x159 : ai_I := (([.inr (fr 1), .inr (fr 16), .inl (2147483648, 2147483648), .inl (2147483649, 2147483649)], []), ((some (.inl (2147483648, 2147483649)), []), (([4098, 4099, 8194, 8196, 8197, 8198, 8199, 65538, 65539], [17]), 53)))
set_option maxRecDepth 100000 in
theorem ik_x159 : ai_inst (ai_T0, ai_cts [(240, ii_x19), (246, ii_x158)], ai_mem ai_inl, ii_x159.2.2.1, ([65538], [17]), ai_hds [(67, [((0, (5, 0)), ([(0, (.inr (fr 1), (0, 0))), (1, (.inr (fr 16), (0, 0))), (2, (.inl (2147483648, 2147483648), (0, 0))), (3, (.inl (2147483649, 2147483649), (0, 0))), (4, (.inl (2147483679, 2147483679), (0, 0))), (5, (.inl (2147483648, 2147483679), (0, 0)))], []))])]) 1000000 246 [(67, 0)] ii_x159 = true := by decide +kernel
theorem ic_x159 {l : Launch} {X : fx_X} {Y : fx_Y} {B : fx_B} (he : ai_env X B) : ai_con l X Y B ai_T0 ai_N 246 ii_x159 := ai_case he (fun _ _ _ _ => trivial) ik_x159 ⟨ic_x19 he, ic_x158 he, trivial⟩

def ii_x160 : ai_I := (([.inr (fr 1), .inr (fr 16), .inl (2147483648, 2147483648)], []), ((some (.inl (2147483648, 2147483649)), []), (([4098, 4099, 8194, 8196, 8197, 8198, 8199, 65538, 65539], [17]), 54)))
set_option maxRecDepth 100000 in
theorem ik_x160 : ai_inst (ai_T0, ai_cts [(240, ii_x19), (246, ii_x159), (247, ii_x21)], ai_mem ai_inl, ii_x160.2.2.1, ([4098, 4099, 65538, 65539], [17]), ai_hds []) 1000000 278 [] ii_x160 = true := by decide +kernel
theorem ic_x160 {l : Launch} {X : fx_X} {Y : fx_Y} {B : fx_B} (he : ai_env X B) : ai_con l X Y B ai_T0 ai_N 278 ii_x160 := ai_case he (fun _ _ _ _ => trivial) ik_x160 ⟨ic_x19 he, ic_x159 he, ic_x21 he, trivial⟩

def ii_x161 : ai_I := (([.inr (fr 1), .inr (fr 16), .inl (2147483653, 2147483653), .inl (2147483648, 2147483648)], []), ((some (.inl (2147483648, 2147483649)), []), (([4098, 4099, 8194, 8196, 8197, 8198, 8199, 65538, 65539], [17]), 55)))
set_option maxRecDepth 100000 in
theorem ik_x161 : ai_inst (ai_T0, ai_cts [(278, ii_x160)], ai_mem ai_inl, ii_x161.2.2.1, ([], []), ai_hds []) 1000000 246 [(67, 0)] ii_x161 = true := by decide +kernel
theorem ic_x161 {l : Launch} {X : fx_X} {Y : fx_Y} {B : fx_B} (he : ai_env X B) : ai_con l X Y B ai_T0 ai_N 246 ii_x161 := ai_case he (fun _ _ _ _ => trivial) ik_x161 ⟨ic_x160 he, trivial⟩

def ii_x162 : ai_I := (([.inr (fr 1), .inr (fr 16), .inl (2147483652, 2147483652), .inl (2147483648, 2147483648)], []), ((some (.inl (2147483648, 2147483649)), []), (([4098, 4099, 8194, 8196, 8197, 8198, 8199, 65538, 65539], [17]), 56)))
set_option maxRecDepth 100000 in
theorem ik_x162 : ai_inst (ai_T0, ai_cts [(240, ii_x19), (246, ii_x161)], ai_mem ai_inl, ii_x162.2.2.1, ([65538], [17]), ai_hds [(67, [((0, (5, 0)), ([(0, (.inr (fr 1), (0, 0))), (1, (.inr (fr 16), (0, 0))), (2, (.inl (2147483652, 2147483652), (0, 0))), (3, (.inl (2147483648, 2147483648), (0, 0))), (4, (.inl (2147483679, 2147483679), (0, 0))), (5, (.inl (2147483648, 2147483679), (0, 0)))], []))])]) 1000000 246 [(67, 0)] ii_x162 = true := by decide +kernel
theorem ic_x162 {l : Launch} {X : fx_X} {Y : fx_Y} {B : fx_B} (he : ai_env X B) : ai_con l X Y B ai_T0 ai_N 246 ii_x162 := ai_case he (fun _ _ _ _ => trivial) ik_x162 ⟨ic_x19 he, ic_x161 he, trivial⟩

def ii_x163 : ai_I := (([.inr (fr 1), .inr (fr 16), .inl (2147483651, 2147483651), .inl (2147483648, 2147483648)], []), ((some (.inl (2147483648, 2147483649)), []), (([4098, 4099, 8194, 8196, 8197, 8198, 8199, 65538, 65539], [17]), 57)))
set_option maxRecDepth 100000 in
theorem ik_x163 : ai_inst (ai_T0, ai_cts [(240, ii_x19), (246, ii_x162)], ai_mem ai_inl, ii_x163.2.2.1, ([65538], [17]), ai_hds [(67, [((0, (5, 0)), ([(0, (.inr (fr 1), (0, 0))), (1, (.inr (fr 16), (0, 0))), (2, (.inl (2147483651, 2147483651), (0, 0))), (3, (.inl (2147483648, 2147483648), (0, 0))), (4, (.inl (2147483679, 2147483679), (0, 0))), (5, (.inl (2147483648, 2147483679), (0, 0)))], []))])]) 1000000 246 [(67, 0)] ii_x163 = true := by decide +kernel
theorem ic_x163 {l : Launch} {X : fx_X} {Y : fx_Y} {B : fx_B} (he : ai_env X B) : ai_con l X Y B ai_T0 ai_N 246 ii_x163 := ai_case he (fun _ _ _ _ => trivial) ik_x163 ⟨ic_x19 he, ic_x162 he, trivial⟩

def ii_x164 : ai_I := (([.inr (fr 1), .inr (fr 16), .inl (2147483648, 2147483648)], []), ((some (.inl (2147483648, 2147483649)), []), (([4098, 4099, 8194, 8196, 8197, 8198, 8199, 65538, 65539], [17]), 52)))
set_option maxRecDepth 100000 in
theorem ik_x164 : ai_inst (ai_T0, ai_cts [(240, ii_x19), (246, ii_x157)], ai_mem ai_inl, ii_x164.2.2.1, ([65538], [17]), ai_hds []) 1000000 279 [] ii_x164 = true := by decide +kernel
theorem ic_x164 {l : Launch} {X : fx_X} {Y : fx_Y} {B : fx_B} (he : ai_env X B) : ai_con l X Y B ai_T0 ai_N 279 ii_x164 := ai_case he (fun _ _ _ _ => trivial) ik_x164 ⟨ic_x19 he, ic_x157 he, trivial⟩

def ii_x165 : ai_I := (([.inr (fr 1), .inr (fr 16), .inl (2147483650, 2147483650), .inl (2147483648, 2147483648)], []), ((some (.inl (2147483648, 2147483649)), []), (([4098, 4099, 8194, 8196, 8197, 8198, 8199, 65538, 65539], [17]), 58)))
set_option maxRecDepth 100000 in
theorem ik_x165 : ai_inst (ai_T0, ai_cts [(240, ii_x19), (246, ii_x163), (279, ii_x164)], ai_mem ai_inl, ii_x165.2.2.1, ([65538], [17]), ai_hds [(67, [((0, (5, 0)), ([(0, (.inr (fr 1), (0, 0))), (1, (.inr (fr 16), (0, 0))), (2, (.inl (2147483650, 2147483650), (0, 0))), (3, (.inl (2147483648, 2147483648), (0, 0))), (4, (.inl (2147483649, 2147483649), (0, 0))), (5, (.inl (2147483648, 2147483649), (0, 0)))], [(4096, (.inr (fr 2), (0, 0)))]))])]) 1000000 246 [(67, 0)] ii_x165 = true := by decide +kernel
theorem ic_x165 {l : Launch} {X : fx_X} {Y : fx_Y} {B : fx_B} (he : ai_env X B) : ai_con l X Y B ai_T0 ai_N 246 ii_x165 := ai_case he (fun _ _ _ _ => trivial) ik_x165 ⟨ic_x19 he, ic_x163 he, ic_x164 he, trivial⟩

def ii_x166 : ai_I := (([.inr (fr 1), .inr (fr 16), .inl (2147483649, 2147483649), .inl (2147483648, 2147483648)], []), ((some (.inl (2147483648, 2147483649)), []), (([4098, 4099, 8194, 8196, 8197, 8198, 8199, 65538, 65539], [17]), 59)))
set_option maxRecDepth 100000 in
theorem ik_x166 : ai_inst (ai_T0, ai_cts [(240, ii_x19), (246, ii_x165)], ai_mem ai_inl, ii_x166.2.2.1, ([65538], [17]), ai_hds [(67, [((0, (5, 0)), ([(0, (.inr (fr 1), (0, 0))), (1, (.inr (fr 16), (0, 0))), (2, (.inl (2147483649, 2147483649), (0, 0))), (3, (.inl (2147483648, 2147483648), (0, 0))), (4, (.inl (2147483679, 2147483679), (0, 0))), (5, (.inl (2147483648, 2147483679), (0, 0)))], []))])]) 1000000 246 [(67, 0)] ii_x166 = true := by decide +kernel
theorem ic_x166 {l : Launch} {X : fx_X} {Y : fx_Y} {B : fx_B} (he : ai_env X B) : ai_con l X Y B ai_T0 ai_N 246 ii_x166 := ai_case he (fun _ _ _ _ => trivial) ik_x166 ⟨ic_x19 he, ic_x165 he, trivial⟩

def ii_x167 : ai_I := (([.inr (fr 1), .inr (fr 16), .inl (2147483648, 2147483648), .inl (2147483648, 2147483648)], []), ((some (.inl (2147483648, 2147483649)), []), (([4098, 4099, 8194, 8196, 8197, 8198, 8199, 65538, 65539], [17]), 60)))
set_option maxRecDepth 100000 in
theorem ik_x167 : ai_inst (ai_T0, ai_cts [(240, ii_x19), (246, ii_x166)], ai_mem ai_inl, ii_x167.2.2.1, ([65538], [17]), ai_hds [(67, [((0, (5, 0)), ([(0, (.inr (fr 1), (0, 0))), (1, (.inr (fr 16), (0, 0))), (2, (.inl (2147483648, 2147483648), (0, 0))), (3, (.inl (2147483648, 2147483648), (0, 0))), (4, (.inl (2147483679, 2147483679), (0, 0))), (5, (.inl (2147483648, 2147483679), (0, 0)))], []))])]) 1000000 246 [(67, 0)] ii_x167 = true := by decide +kernel
theorem ic_x167 {l : Launch} {X : fx_X} {Y : fx_Y} {B : fx_B} (he : ai_env X B) : ai_con l X Y B ai_T0 ai_N 246 ii_x167 := ai_case he (fun _ _ _ _ => trivial) ik_x167 ⟨ic_x19 he, ic_x166 he, trivial⟩

def ii_x168 : ai_I := (([.inr (fr 1), .inr (fr 27), .inl (2147483655, 2147483655)], []), ((some (.inl (2147483648, 2147483649)), []), (([4098, 4099, 8194, 8196, 8197, 8198, 8199, 110594, 110595], [28]), 5)))
set_option maxRecDepth 100000 in
theorem ik_x168 : ai_inst (ai_T0, ai_cts [(240, ii_x19)], ai_mem ai_inl, ii_x168.2.2.1, ([4098, 4099, 110594, 110595], [28]), ai_hds []) 1000000 278 [] ii_x168 = true := by decide +kernel
theorem ic_x168 {l : Launch} {X : fx_X} {Y : fx_Y} {B : fx_B} (he : ai_env X B) : ai_con l X Y B ai_T0 ai_N 278 ii_x168 := ai_case he (fun _ _ _ _ => trivial) ik_x168 ⟨ic_x19 he, trivial⟩

def ii_x169 : ai_I := (([.inr (fr 1), .inr (fr 27), .inl (2147483653, 2147483653), .inl (2147483655, 2147483655)], []), ((some (.inl (2147483648, 2147483649)), []), (([4098, 4099, 8194, 8196, 8197, 8198, 8199, 110594, 110595], [28]), 6)))
set_option maxRecDepth 100000 in
theorem ik_x169 : ai_inst (ai_T0, ai_cts [(278, ii_x168)], ai_mem ai_inl, ii_x169.2.2.1, ([], []), ai_hds []) 1000000 246 [(67, 0)] ii_x169 = true := by decide +kernel
theorem ic_x169 {l : Launch} {X : fx_X} {Y : fx_Y} {B : fx_B} (he : ai_env X B) : ai_con l X Y B ai_T0 ai_N 246 ii_x169 := ai_case he (fun _ _ _ _ => trivial) ik_x169 ⟨ic_x168 he, trivial⟩

def ii_x170 : ai_I := (([.inr (fr 1), .inr (fr 27), .inl (2147483652, 2147483652), .inl (2147483655, 2147483655)], []), ((some (.inl (2147483648, 2147483649)), []), (([4098, 4099, 8194, 8196, 8197, 8198, 8199, 110594, 110595], [28]), 7)))
set_option maxRecDepth 100000 in
theorem ik_x170 : ai_inst (ai_T0, ai_cts [(240, ii_x19), (246, ii_x169)], ai_mem ai_inl, ii_x170.2.2.1, ([110594], [28]), ai_hds [(67, [((0, (5, 0)), ([(0, (.inr (fr 1), (0, 0))), (1, (.inr (fr 27), (0, 0))), (2, (.inl (2147483652, 2147483652), (0, 0))), (3, (.inl (2147483655, 2147483655), (0, 0))), (4, (.inl (2147483679, 2147483679), (0, 0))), (5, (.inl (2147483648, 2147483679), (0, 0)))], []))])]) 1000000 246 [(67, 0)] ii_x170 = true := by decide +kernel
theorem ic_x170 {l : Launch} {X : fx_X} {Y : fx_Y} {B : fx_B} (he : ai_env X B) : ai_con l X Y B ai_T0 ai_N 246 ii_x170 := ai_case he (fun _ _ _ _ => trivial) ik_x170 ⟨ic_x19 he, ic_x169 he, trivial⟩

def ii_x171 : ai_I := (([.inr (fr 1), .inr (fr 27), .inl (2147483651, 2147483651), .inl (2147483655, 2147483655)], []), ((some (.inl (2147483648, 2147483649)), []), (([4098, 4099, 8194, 8196, 8197, 8198, 8199, 110594, 110595], [28]), 8)))
set_option maxRecDepth 100000 in
theorem ik_x171 : ai_inst (ai_T0, ai_cts [(240, ii_x19), (246, ii_x170)], ai_mem ai_inl, ii_x171.2.2.1, ([110594], [28]), ai_hds [(67, [((0, (5, 0)), ([(0, (.inr (fr 1), (0, 0))), (1, (.inr (fr 27), (0, 0))), (2, (.inl (2147483651, 2147483651), (0, 0))), (3, (.inl (2147483655, 2147483655), (0, 0))), (4, (.inl (2147483679, 2147483679), (0, 0))), (5, (.inl (2147483648, 2147483679), (0, 0)))], []))])]) 1000000 246 [(67, 0)] ii_x171 = true := by decide +kernel
theorem ic_x171 {l : Launch} {X : fx_X} {Y : fx_Y} {B : fx_B} (he : ai_env X B) : ai_con l X Y B ai_T0 ai_N 246 ii_x171 := ai_case he (fun _ _ _ _ => trivial) ik_x171 ⟨ic_x19 he, ic_x170 he, trivial⟩

def ii_x172 : ai_I := (([.inr (fr 1), .inr (fr 27), .inl (2147483655, 2147483655)], []), ((some (.inl (2147483648, 2147483648)), []), (([4098, 4099], []), 2)))
set_option maxRecDepth 100000 in
theorem ik_x172 : ai_inst (ai_T0, ai_cts [], ai_mem ai_inl, ii_x172.2.2.1, ([4098, 4099], []), ai_hds []) 1000000 279 [] ii_x172 = true := by decide +kernel
theorem ic_x172 {l : Launch} {X : fx_X} {Y : fx_Y} {B : fx_B} (he : ai_env X B) : ai_con l X Y B ai_T0 ai_N 279 ii_x172 := ai_case he (fun _ _ _ _ => trivial) ik_x172 trivial

def ii_x173 : ai_I := (([.inr (fr 1), .inr (fr 27), .inl (2147483650, 2147483650), .inl (2147483655, 2147483655)], []), ((some (.inl (2147483648, 2147483649)), []), (([4098, 4099, 8194, 8196, 8197, 8198, 8199, 110594, 110595], [28]), 9)))
set_option maxRecDepth 100000 in
theorem ik_x173 : ai_inst (ai_T0, ai_cts [(240, ii_x19), (246, ii_x171), (279, ii_x172)], ai_mem ai_inl, ii_x173.2.2.1, ([110594], [28]), ai_hds [(67, [((0, (5, 0)), ([(0, (.inr (fr 1), (0, 0))), (1, (.inr (fr 27), (0, 0))), (2, (.inl (2147483650, 2147483650), (0, 0))), (3, (.inl (2147483655, 2147483655), (0, 0))), (4, (.inl (2147483649, 2147483649), (0, 0))), (5, (.inl (2147483648, 2147483649), (0, 0)))], [(4096, (.inr (fr 2), (0, 0)))]))])]) 1000000 246 [(67, 0)] ii_x173 = true := by decide +kernel
theorem ic_x173 {l : Launch} {X : fx_X} {Y : fx_Y} {B : fx_B} (he : ai_env X B) : ai_con l X Y B ai_T0 ai_N 246 ii_x173 := ai_case he (fun _ _ _ _ => trivial) ik_x173 ⟨ic_x19 he, ic_x171 he, ic_x172 he, trivial⟩

def ii_x174 : ai_I := (([.inr (fr 1), .inr (fr 27), .inl (2147483649, 2147483649), .inl (2147483655, 2147483655)], []), ((some (.inl (2147483648, 2147483649)), []), (([4098, 4099, 8194, 8196, 8197, 8198, 8199, 110594, 110595], [28]), 10)))
set_option maxRecDepth 100000 in
theorem ik_x174 : ai_inst (ai_T0, ai_cts [(240, ii_x19), (246, ii_x173)], ai_mem ai_inl, ii_x174.2.2.1, ([110594], [28]), ai_hds [(67, [((0, (5, 0)), ([(0, (.inr (fr 1), (0, 0))), (1, (.inr (fr 27), (0, 0))), (2, (.inl (2147483649, 2147483649), (0, 0))), (3, (.inl (2147483655, 2147483655), (0, 0))), (4, (.inl (2147483679, 2147483679), (0, 0))), (5, (.inl (2147483648, 2147483679), (0, 0)))], []))])]) 1000000 246 [(67, 0)] ii_x174 = true := by decide +kernel
theorem ic_x174 {l : Launch} {X : fx_X} {Y : fx_Y} {B : fx_B} (he : ai_env X B) : ai_con l X Y B ai_T0 ai_N 246 ii_x174 := ai_case he (fun _ _ _ _ => trivial) ik_x174 ⟨ic_x19 he, ic_x173 he, trivial⟩

def ii_x175 : ai_I := (([.inr (fr 1), .inr (fr 27), .inl (2147483648, 2147483648), .inl (2147483655, 2147483655)], []), ((some (.inl (2147483648, 2147483649)), []), (([4098, 4099, 8194, 8196, 8197, 8198, 8199, 110594, 110595], [28]), 11)))
set_option maxRecDepth 100000 in
theorem ik_x175 : ai_inst (ai_T0, ai_cts [(240, ii_x19), (246, ii_x174)], ai_mem ai_inl, ii_x175.2.2.1, ([110594], [28]), ai_hds [(67, [((0, (5, 0)), ([(0, (.inr (fr 1), (0, 0))), (1, (.inr (fr 27), (0, 0))), (2, (.inl (2147483648, 2147483648), (0, 0))), (3, (.inl (2147483655, 2147483655), (0, 0))), (4, (.inl (2147483679, 2147483679), (0, 0))), (5, (.inl (2147483648, 2147483679), (0, 0)))], []))])]) 1000000 246 [(67, 0)] ii_x175 = true := by decide +kernel
theorem ic_x175 {l : Launch} {X : fx_X} {Y : fx_Y} {B : fx_B} (he : ai_env X B) : ai_con l X Y B ai_T0 ai_N 246 ii_x175 := ai_case he (fun _ _ _ _ => trivial) ik_x175 ⟨ic_x19 he, ic_x174 he, trivial⟩

def ii_x176 : ai_I := (([.inr (fr 1), .inr (fr 27), .inl (2147483654, 2147483654)], []), ((some (.inl (2147483648, 2147483649)), []), (([4098, 4099, 8194, 8196, 8197, 8198, 8199, 110594, 110595], [28]), 12)))
set_option maxRecDepth 100000 in
theorem ik_x176 : ai_inst (ai_T0, ai_cts [(240, ii_x19), (246, ii_x175), (247, ii_x21)], ai_mem ai_inl, ii_x176.2.2.1, ([4098, 4099, 110594, 110595], [28]), ai_hds []) 1000000 278 [] ii_x176 = true := by decide +kernel
theorem ic_x176 {l : Launch} {X : fx_X} {Y : fx_Y} {B : fx_B} (he : ai_env X B) : ai_con l X Y B ai_T0 ai_N 278 ii_x176 := ai_case he (fun _ _ _ _ => trivial) ik_x176 ⟨ic_x19 he, ic_x175 he, ic_x21 he, trivial⟩

def ii_x177 : ai_I := (([.inr (fr 1), .inr (fr 27), .inl (2147483653, 2147483653), .inl (2147483654, 2147483654)], []), ((some (.inl (2147483648, 2147483649)), []), (([4098, 4099, 8194, 8196, 8197, 8198, 8199, 110594, 110595], [28]), 13)))
set_option maxRecDepth 100000 in
theorem ik_x177 : ai_inst (ai_T0, ai_cts [(278, ii_x176)], ai_mem ai_inl, ii_x177.2.2.1, ([], []), ai_hds []) 1000000 246 [(67, 0)] ii_x177 = true := by decide +kernel
theorem ic_x177 {l : Launch} {X : fx_X} {Y : fx_Y} {B : fx_B} (he : ai_env X B) : ai_con l X Y B ai_T0 ai_N 246 ii_x177 := ai_case he (fun _ _ _ _ => trivial) ik_x177 ⟨ic_x176 he, trivial⟩

def ii_x178 : ai_I := (([.inr (fr 1), .inr (fr 27), .inl (2147483652, 2147483652), .inl (2147483654, 2147483654)], []), ((some (.inl (2147483648, 2147483649)), []), (([4098, 4099, 8194, 8196, 8197, 8198, 8199, 110594, 110595], [28]), 14)))
set_option maxRecDepth 100000 in
theorem ik_x178 : ai_inst (ai_T0, ai_cts [(240, ii_x19), (246, ii_x177)], ai_mem ai_inl, ii_x178.2.2.1, ([110594], [28]), ai_hds [(67, [((0, (5, 0)), ([(0, (.inr (fr 1), (0, 0))), (1, (.inr (fr 27), (0, 0))), (2, (.inl (2147483652, 2147483652), (0, 0))), (3, (.inl (2147483654, 2147483654), (0, 0))), (4, (.inl (2147483679, 2147483679), (0, 0))), (5, (.inl (2147483648, 2147483679), (0, 0)))], []))])]) 1000000 246 [(67, 0)] ii_x178 = true := by decide +kernel
theorem ic_x178 {l : Launch} {X : fx_X} {Y : fx_Y} {B : fx_B} (he : ai_env X B) : ai_con l X Y B ai_T0 ai_N 246 ii_x178 := ai_case he (fun _ _ _ _ => trivial) ik_x178 ⟨ic_x19 he, ic_x177 he, trivial⟩

def ii_x179 : ai_I := (([.inr (fr 1), .inr (fr 27), .inl (2147483651, 2147483651), .inl (2147483654, 2147483654)], []), ((some (.inl (2147483648, 2147483649)), []), (([4098, 4099, 8194, 8196, 8197, 8198, 8199, 110594, 110595], [28]), 15)))
set_option maxRecDepth 100000 in
theorem ik_x179 : ai_inst (ai_T0, ai_cts [(240, ii_x19), (246, ii_x178)], ai_mem ai_inl, ii_x179.2.2.1, ([110594], [28]), ai_hds [(67, [((0, (5, 0)), ([(0, (.inr (fr 1), (0, 0))), (1, (.inr (fr 27), (0, 0))), (2, (.inl (2147483651, 2147483651), (0, 0))), (3, (.inl (2147483654, 2147483654), (0, 0))), (4, (.inl (2147483679, 2147483679), (0, 0))), (5, (.inl (2147483648, 2147483679), (0, 0)))], []))])]) 1000000 246 [(67, 0)] ii_x179 = true := by decide +kernel
theorem ic_x179 {l : Launch} {X : fx_X} {Y : fx_Y} {B : fx_B} (he : ai_env X B) : ai_con l X Y B ai_T0 ai_N 246 ii_x179 := ai_case he (fun _ _ _ _ => trivial) ik_x179 ⟨ic_x19 he, ic_x178 he, trivial⟩

def ii_x180 : ai_I := (([.inr (fr 1), .inr (fr 27), .inl (2147483654, 2147483654)], []), ((some (.inl (2147483648, 2147483649)), []), (([4098, 4099, 8194, 8196, 8197, 8198, 8199, 110594, 110595], [28]), 10)))
set_option maxRecDepth 100000 in
theorem ik_x180 : ai_inst (ai_T0, ai_cts [(240, ii_x19), (246, ii_x173)], ai_mem ai_inl, ii_x180.2.2.1, ([110594], [28]), ai_hds []) 1000000 279 [] ii_x180 = true := by decide +kernel
theorem ic_x180 {l : Launch} {X : fx_X} {Y : fx_Y} {B : fx_B} (he : ai_env X B) : ai_con l X Y B ai_T0 ai_N 279 ii_x180 := ai_case he (fun _ _ _ _ => trivial) ik_x180 ⟨ic_x19 he, ic_x173 he, trivial⟩

def ii_x181 : ai_I := (([.inr (fr 1), .inr (fr 27), .inl (2147483650, 2147483650), .inl (2147483654, 2147483654)], []), ((some (.inl (2147483648, 2147483649)), []), (([4098, 4099, 8194, 8196, 8197, 8198, 8199, 110594, 110595], [28]), 16)))
set_option maxRecDepth 100000 in
theorem ik_x181 : ai_inst (ai_T0, ai_cts [(240, ii_x19), (246, ii_x179), (279, ii_x180)], ai_mem ai_inl, ii_x181.2.2.1, ([110594], [28]), ai_hds [(67, [((0, (5, 0)), ([(0, (.inr (fr 1), (0, 0))), (1, (.inr (fr 27), (0, 0))), (2, (.inl (2147483650, 2147483650), (0, 0))), (3, (.inl (2147483654, 2147483654), (0, 0))), (4, (.inl (2147483649, 2147483649), (0, 0))), (5, (.inl (2147483648, 2147483649), (0, 0)))], [(4096, (.inr (fr 2), (0, 0)))]))])]) 1000000 246 [(67, 0)] ii_x181 = true := by decide +kernel
theorem ic_x181 {l : Launch} {X : fx_X} {Y : fx_Y} {B : fx_B} (he : ai_env X B) : ai_con l X Y B ai_T0 ai_N 246 ii_x181 := ai_case he (fun _ _ _ _ => trivial) ik_x181 ⟨ic_x19 he, ic_x179 he, ic_x180 he, trivial⟩

def ii_x182 : ai_I := (([.inr (fr 1), .inr (fr 27), .inl (2147483649, 2147483649), .inl (2147483654, 2147483654)], []), ((some (.inl (2147483648, 2147483649)), []), (([4098, 4099, 8194, 8196, 8197, 8198, 8199, 110594, 110595], [28]), 17)))
set_option maxRecDepth 100000 in
theorem ik_x182 : ai_inst (ai_T0, ai_cts [(240, ii_x19), (246, ii_x181)], ai_mem ai_inl, ii_x182.2.2.1, ([110594], [28]), ai_hds [(67, [((0, (5, 0)), ([(0, (.inr (fr 1), (0, 0))), (1, (.inr (fr 27), (0, 0))), (2, (.inl (2147483649, 2147483649), (0, 0))), (3, (.inl (2147483654, 2147483654), (0, 0))), (4, (.inl (2147483679, 2147483679), (0, 0))), (5, (.inl (2147483648, 2147483679), (0, 0)))], []))])]) 1000000 246 [(67, 0)] ii_x182 = true := by decide +kernel
theorem ic_x182 {l : Launch} {X : fx_X} {Y : fx_Y} {B : fx_B} (he : ai_env X B) : ai_con l X Y B ai_T0 ai_N 246 ii_x182 := ai_case he (fun _ _ _ _ => trivial) ik_x182 ⟨ic_x19 he, ic_x181 he, trivial⟩

def ii_x183 : ai_I := (([.inr (fr 1), .inr (fr 27), .inl (2147483648, 2147483648), .inl (2147483654, 2147483654)], []), ((some (.inl (2147483648, 2147483649)), []), (([4098, 4099, 8194, 8196, 8197, 8198, 8199, 110594, 110595], [28]), 18)))
set_option maxRecDepth 100000 in
theorem ik_x183 : ai_inst (ai_T0, ai_cts [(240, ii_x19), (246, ii_x182)], ai_mem ai_inl, ii_x183.2.2.1, ([110594], [28]), ai_hds [(67, [((0, (5, 0)), ([(0, (.inr (fr 1), (0, 0))), (1, (.inr (fr 27), (0, 0))), (2, (.inl (2147483648, 2147483648), (0, 0))), (3, (.inl (2147483654, 2147483654), (0, 0))), (4, (.inl (2147483679, 2147483679), (0, 0))), (5, (.inl (2147483648, 2147483679), (0, 0)))], []))])]) 1000000 246 [(67, 0)] ii_x183 = true := by decide +kernel
theorem ic_x183 {l : Launch} {X : fx_X} {Y : fx_Y} {B : fx_B} (he : ai_env X B) : ai_con l X Y B ai_T0 ai_N 246 ii_x183 := ai_case he (fun _ _ _ _ => trivial) ik_x183 ⟨ic_x19 he, ic_x182 he, trivial⟩

def ii_x184 : ai_I := (([.inr (fr 1), .inr (fr 27), .inl (2147483653, 2147483653)], []), ((some (.inl (2147483648, 2147483649)), []), (([4098, 4099, 8194, 8196, 8197, 8198, 8199, 110594, 110595], [28]), 19)))
set_option maxRecDepth 100000 in
theorem ik_x184 : ai_inst (ai_T0, ai_cts [(240, ii_x19), (246, ii_x183), (247, ii_x21)], ai_mem ai_inl, ii_x184.2.2.1, ([4098, 4099, 110594, 110595], [28]), ai_hds []) 1000000 278 [] ii_x184 = true := by decide +kernel
theorem ic_x184 {l : Launch} {X : fx_X} {Y : fx_Y} {B : fx_B} (he : ai_env X B) : ai_con l X Y B ai_T0 ai_N 278 ii_x184 := ai_case he (fun _ _ _ _ => trivial) ik_x184 ⟨ic_x19 he, ic_x183 he, ic_x21 he, trivial⟩

def ii_x185 : ai_I := (([.inr (fr 1), .inr (fr 27), .inl (2147483653, 2147483653), .inl (2147483653, 2147483653)], []), ((some (.inl (2147483648, 2147483649)), []), (([4098, 4099, 8194, 8196, 8197, 8198, 8199, 110594, 110595], [28]), 20)))
set_option maxRecDepth 100000 in
theorem ik_x185 : ai_inst (ai_T0, ai_cts [(278, ii_x184)], ai_mem ai_inl, ii_x185.2.2.1, ([], []), ai_hds []) 1000000 246 [(67, 0)] ii_x185 = true := by decide +kernel
theorem ic_x185 {l : Launch} {X : fx_X} {Y : fx_Y} {B : fx_B} (he : ai_env X B) : ai_con l X Y B ai_T0 ai_N 246 ii_x185 := ai_case he (fun _ _ _ _ => trivial) ik_x185 ⟨ic_x184 he, trivial⟩

def ii_x186 : ai_I := (([.inr (fr 1), .inr (fr 27), .inl (2147483652, 2147483652), .inl (2147483653, 2147483653)], []), ((some (.inl (2147483648, 2147483649)), []), (([4098, 4099, 8194, 8196, 8197, 8198, 8199, 110594, 110595], [28]), 21)))
set_option maxRecDepth 100000 in
theorem ik_x186 : ai_inst (ai_T0, ai_cts [(240, ii_x19), (246, ii_x185)], ai_mem ai_inl, ii_x186.2.2.1, ([110594], [28]), ai_hds [(67, [((0, (5, 0)), ([(0, (.inr (fr 1), (0, 0))), (1, (.inr (fr 27), (0, 0))), (2, (.inl (2147483652, 2147483652), (0, 0))), (3, (.inl (2147483653, 2147483653), (0, 0))), (4, (.inl (2147483679, 2147483679), (0, 0))), (5, (.inl (2147483648, 2147483679), (0, 0)))], []))])]) 1000000 246 [(67, 0)] ii_x186 = true := by decide +kernel
theorem ic_x186 {l : Launch} {X : fx_X} {Y : fx_Y} {B : fx_B} (he : ai_env X B) : ai_con l X Y B ai_T0 ai_N 246 ii_x186 := ai_case he (fun _ _ _ _ => trivial) ik_x186 ⟨ic_x19 he, ic_x185 he, trivial⟩

def ii_x187 : ai_I := (([.inr (fr 1), .inr (fr 27), .inl (2147483651, 2147483651), .inl (2147483653, 2147483653)], []), ((some (.inl (2147483648, 2147483649)), []), (([4098, 4099, 8194, 8196, 8197, 8198, 8199, 110594, 110595], [28]), 22)))
set_option maxRecDepth 100000 in
theorem ik_x187 : ai_inst (ai_T0, ai_cts [(240, ii_x19), (246, ii_x186)], ai_mem ai_inl, ii_x187.2.2.1, ([110594], [28]), ai_hds [(67, [((0, (5, 0)), ([(0, (.inr (fr 1), (0, 0))), (1, (.inr (fr 27), (0, 0))), (2, (.inl (2147483651, 2147483651), (0, 0))), (3, (.inl (2147483653, 2147483653), (0, 0))), (4, (.inl (2147483679, 2147483679), (0, 0))), (5, (.inl (2147483648, 2147483679), (0, 0)))], []))])]) 1000000 246 [(67, 0)] ii_x187 = true := by decide +kernel
theorem ic_x187 {l : Launch} {X : fx_X} {Y : fx_Y} {B : fx_B} (he : ai_env X B) : ai_con l X Y B ai_T0 ai_N 246 ii_x187 := ai_case he (fun _ _ _ _ => trivial) ik_x187 ⟨ic_x19 he, ic_x186 he, trivial⟩
