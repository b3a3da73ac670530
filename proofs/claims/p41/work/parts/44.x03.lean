def ii_x116 : ai_I := (([.inr (fr 1), .inr (fr 16), .inl (2147483654, 2147483654)], []), ((some (.inl (2147483648, 2147483649)), []), (([4098, 4099, 8194, 8196, 8197, 8198, 8199, 65538, 65539], [17]), 10)))
set_option maxRecDepth 100000 in
theorem ik_x116 : ai_inst (ai_T0, ai_cts [(240, ii_x19), (246, ii_x109)], ai_mem ai_inl, ii_x116.2.2.1, ([65538], [17]), ai_hds []) 1000000 279 [] ii_x116 = true := by decide +kernel
theorem ic_x116 {l : Launch} {X : fx_X} {Y : fx_Y} {B : fx_B} (he : ai_env X B) : ai_con l X Y B ai_T0 ai_N 279 ii_x116 := ai_case he (fun _ _ _ _ => trivial) ik_x116 ⟨ic_x19 he, ic_x109 he, trivial⟩

def ii_x117 : ai_I := (([.inr (fr 1), .inr (fr 16), .inl (2147483650, 2147483650), .inl (2147483654, 2147483654)], []), ((some (.inl (2147483648, 2147483649)), []), (([4098, 4099, 8194, 8196, 8197, 8198, 8199, 65538, 65539], [17]), 16)))
set_option maxRecDepth 100000 in
theorem ik_x117 : ai_inst (ai_T0, ai_cts [(240, ii_x19), (246, ii_x115), (279, ii_x116)], ai_mem ai_inl, ii_x117.2.2.1, ([65538], [17]), ai_hds [(67, [((0, (5, 0)), ([(0, (.inr (fr 1), (0, 0))), (1, (.inr (fr 16), (0, 0))), (2, (.inl (2147483650, 2147483650), (0, 0))), (3, (.inl (2147483654, 2147483654), (0, 0))), (4, (.inl (2147483649, 2147483649), (0, 0))), (5, (.inl (2147483648, 2147483649), (0, 0)))], [(4096, (.inr (fr 2), (0, 0)))]))])]) 1000000 246 [(67, 0)] ii_x117 = true := by decide +kernel
theorem ic_x117 {l : Launch} {X : fx_X} {Y : fx_Y} {B : fx_B} (he : ai_env X B) : ai_con l X Y B ai_T0 ai_N 246 ii_x117 := ai_case he (fun _ _ _ _ => trivial) ik_x117 ⟨ic_x19 he, ic_x115 he, ic_x116 he, trivial⟩

def ii_x118 : ai_I := (([.inr (fr 1), .inr (fr 16), .inl (2147483649, 2147483649), .inl (2147483654, 2147483654)], []), ((some (.inl (2147483648, 2147483649)), []), (([4098, 4099, 8194, 8196, 8197, 8198, 8199, 65538, 65539], [17]), 17)))
set_option maxRecDepth 100000 in
theorem ik_x118 : ai_inst (ai_T0, ai_cts [(240, ii_x19), (246, ii_x117)], ai_mem ai_inl, ii_x118.2.2.1, ([65538], [17]), ai_hds [(67, [((0, (5, 0)), ([(0, (.inr (fr 1), (0, 0))), (1, (.inr (fr 16), (0, 0))), (2, (.inl (2147483649, 2147483649), (0, 0))), (3, (.inl (2147483654, 2147483654), (0, 0))), (4, (.inl (2147483679, 2147483679), (0, 0))), (5, (.inl (2147483648, 2147483679), (0, 0)))], []))])]) 1000000 246 [(67, 0)] ii_x118 = true := by decide +kernel
theorem ic_x118 {l : Launch} {X : fx_X} {Y : fx_Y} {B : fx_B} (he : ai_env X B) : ai_con l X Y B ai_T0 ai_N 246 ii_x118 := ai_case he (fun _ _ _ _ => trivial) ik_x118 ⟨ic_x19 he, ic_x117 he, trivial⟩

def ii_x119 : ai_I := (([.inr (fr 1), .inr (fr 16), .inl (2147483648, 2147483648), .inl (2147483654, 2147483654)], []), ((some (.inl (2147483648, 2147483649)), []), (([4098, 4099, 8194, 8196, 8197, 8198, 8199, 65538, 65539], [17]), 18)))
set_option maxRecDepth 100000 in
theorem ik_x119 : ai_inst (ai_T0, ai_cts [(240, ii_x19), (246, ii_x118)], ai_mem ai_inl, ii_x119.2.2.1, ([65538], [17]), ai_hds [(67, [((0, (5, 0)), ([(0, (.inr (fr 1), (0, 0))), (1, (.inr (fr 16), (0, 0))), (2, (.inl (2147483648, 2147483648), (0, 0))), (3, (.inl (2147483654, 2147483654), (0, 0))), (4, (.inl (2147483679, 2147483679), (0, 0))), (5, (.inl (2147483648, 2147483679), (0, 0)))], []))])]) 1000000 246 [(67, 0)] ii_x119 = true := by decide +kernel
theorem ic_x119 {l : Launch} {X : fx_X} {Y : fx_Y} {B : fx_B} (he : ai_env X B) : ai_con l X Y B ai_T0 ai_N 246 ii_x119 := ai_case he (fun _ _ _ _ => trivial) ik_x119 ⟨ic_x19 he, ic_x118 he, trivial⟩

def ii_x120 : ai_I := (([.inr (fr 1), .inr (fr 16), .inl (2147483653, 2147483653)], []), ((some (.inl (2147483648, 2147483649)), []), (([4098, 4099, 8194, 8196, 8197, 8198, 8199, 65538, 65539], [17]), 19)))
set_option maxRecDepth 100000 in
theorem ik_x120 : ai_inst (ai_T0, ai_cts [(240, ii_x19), (246, ii_x119), (247, ii_x21)], ai_mem ai_inl, ii_x120.2.2.1, ([4098, 4099, 65538, 65539], [17]), ai_hds []) 1000000 278 [] ii_x120 = true := by decide +kernel
theorem ic_x120 {l : Launch} {X : fx_X} {Y : fx_Y} {B : fx_B} (he : ai_env X B) : ai_con l X Y B ai_T0 ai_N 278 ii_x120 := ai_case he (fun _ _ _ _ => trivial) ik_x120 ⟨ic_x19 he, ic_x119 he, ic_x21 he, trivial⟩

def ii_x121 : ai_I := (([.inr (fr 1), .inr (fr 16), .inl (2147483653, 2147483653), .inl (2147483653, 2147483653)], []), ((some (.inl (2147483648, 2147483649)), []), (([4098, 4099, 8194, 8196, 8197, 8198, 8199, 65538, 65539], [17]), 20)))
set_option maxRecDepth 100000 in
theorem ik_x121 : ai_inst (ai_T0, ai_cts [(278, ii_x120)], ai_mem ai_inl, ii_x121.2.2.1, ([], []), ai_hds []) 1000000 246 [(67, 0)] ii_x121 = true := by decide +kernel
theorem ic_x121 {l : Launch} {X : fx_X} {Y : fx_Y} {B : fx_B} (he : ai_env X B) : ai_con l X Y B ai_T0 ai_N 246 ii_x121 := ai_case he (fun _ _ _ _ => trivial) ik_x121 ⟨ic_x120 he, trivial⟩

def ii_x122 : ai_I := (([.inr (fr 1), .inr (fr 16), .inl (2147483652, 2147483652), .inl (2147483653, 2147483653)], []), ((some (.inl (2147483648, 2147483649)), []), (([4098, 4099, 8194, 8196, 8197, 8198, 8199, 65538, 65539], [17]), 21)))
set_option maxRecDepth 100000 in
theorem ik_x122 : ai_inst (ai_T0, ai_cts [(240, ii_x19), (246, ii_x121)], ai_mem ai_inl, ii_x122.2.2.1, ([65538], [17]), ai_hds [(67, [((0, (5, 0)), ([(0, (.inr (fr 1), (0, 0))), (1, (.inr (fr 16), (0, 0))), (2, (.inl (2147483652, 2147483652), (0, 0))), (3, (.inl (2147483653, 2147483653), (0, 0))), (4, (.inl (2147483679, 2147483679), (0, 0))), (5, (.inl (2147483648, 2147483679), (0, 0)))], []))])]) 1000000 246 [(67, 0)] ii_x122 = true := by decide +kernel
theorem ic_x122 {l : Launch} {X : fx_X} {Y : fx_Y} {B : fx_B} (he : ai_env X B) : ai_con l X Y B ai_T0 ai_N 246 ii_x122 := ai_case he (fun _ _ _ _ => trivial) ik_x122 ⟨ic_x19 he, ic_x121 he, trivial⟩

def ii_x123 : ai_I := (([.inr (fr 1), .inr (fr 16), .inl (2147483651, 2147483651), .inl (2147483653, 2147483653)], []), ((some (.inl (2147483648, 2147483649)), []), (([4098, 4099, 8194, 8196, 8197, 8198, 8199, 65538, 65539], [17]), 22)))
set_option maxRecDepth 100000 in
theorem ik_x123 : ai_inst (ai_T0, ai_cts [(240, ii_x19), (246, ii_x122)], ai_mem ai_inl, ii_x123.2.2.1, ([65538], [17]), ai_hds [(67, [((0, (5, 0)), ([(0, (.inr (fr 1), (0, 0))), (1, (.inr (fr 16), (0, 0))), (2, (.inl (2147483651, 2147483651), (0, 0))), (3, (.inl (2147483653, 2147483653), (0, 0))), (4, (.inl (2147483679, 2147483679), (0, 0))), (5, (.inl (2147483648, 2147483679), (0, 0)))], []))])]) 1000000 246 [(67, 0)] ii_x123 = true := by decide +kernel
theorem ic_x123 {l : Launch} {X : fx_X} {Y : fx_Y} {B : fx_B} (he : ai_env X B) : ai_con l X Y B ai_T0 ai_N 246 ii_x123 := ai_case he (fun _ _ _ _ => trivial) ik_x123 ⟨ic_x19 he, ic_x122 he, trivial⟩

def ii_x124 : ai_I := (([.inr (fr 1), .inr (fr 16), .inl (2147483653, 2147483653)], []), ((some (.inl (2147483648, 2147483649)), []), (([4098, 4099, 8194, 8196, 8197, 8198, 8199, 65538, 65539], [17]), 17)))
set_option maxRecDepth 100000 in
theorem ik_x124 : ai_inst (ai_T0, ai_cts [(240, ii_x19), (246, ii_x117)], ai_mem ai_inl, ii_x124.2.2.1, ([65538], [17]), ai_hds []) 1000000 279 [] ii_x124 = true := by decide +kernel
theorem ic_x124 {l : Launch} {X : fx_X} {Y : fx_Y} {B : fx_B} (he : ai_env X B) : ai_con l X Y B ai_T0 ai_N 279 ii_x124 := ai_case he (fun _ _ _ _ => trivial) ik_x124 ⟨ic_x19 he, ic_x117 he, trivial⟩

def ii_x125 : ai_I := (([.inr (fr 1), .inr (fr 16), .inl (2147483650, 2147483650), .inl (2147483653, 2147483653)], []), ((some (.inl (2147483648, 2147483649)), []), (([4098, 4099, 8194, 8196, 8197, 8198, 8199, 65538, 65539], [17]), 23)))
set_option maxRecDepth 100000 in
theorem ik_x125 : ai_inst (ai_T0, ai_cts [(240, ii_x19), (246, ii_x123), (279, ii_x124)], ai_mem ai_inl, ii_x125.2.2.1, ([65538], [17]), ai_hds [(67, [((0, (5, 0)), ([(0, (.inr (fr 1), (0, 0))), (1, (.inr (fr 16), (0, 0))), (2, (.inl (2147483650, 2147483650), (0, 0))), (3, (.inl (2147483653, 2147483653), (0, 0))), (4, (.inl (2147483649, 2147483649), (0, 0))), (5, (.inl (2147483648, 2147483649), (0, 0)))], [(4096, (.inr (fr 2), (0, 0)))]))])]) 1000000 246 [(67, 0)] ii_x125 = true := by decide +kernel
theorem ic_x125 {l : Launch} {X : fx_X} {Y : fx_Y} {B : fx_B} (he : ai_env X B) : ai_con l X Y B ai_T0 ai_N 246 ii_x125 := ai_case he (fun _ _ _ _ => trivial) ik_x125 ⟨ic_x19 he, ic_x123 he, ic_x124 he, trivial⟩

def ii_x126 : ai_I := (([.inr (fr 1), .inr (fr 16), .inl (2147483649, 2147483649), .inl (2147483653, 2147483653)], []), ((some (.inl (2147483648, 2147483649)), []), (([4098, 4099, 8194, 8196, 8197, 8198, 8199, 65538, 65539], [17]), 24)))
set_option maxRecDepth 100000 in
theorem ik_x126 : ai_inst (ai_T0, ai_cts [(240, ii_x19), (246, ii_x125)], ai_mem ai_inl, ii_x126.2.2.1, ([65538], [17]), ai_hds [(67, [((0, (5, 0)), ([(0, (.inr (fr 1), (0, 0))), (1, (.inr (fr 16), (0, 0))), (2, (.inl (2147483649, 2147483649), (0, 0))), (3, (.inl (2147483653, 2147483653), (0, 0))), (4, (.inl (2147483679, 2147483679), (0, 0))), (5, (.inl (2147483648, 2147483679), (0, 0)))], []))])]) 1000000 246 [(67, 0)] ii_x126 = true := by decide +kernel
theorem ic_x126 {l : Launch} {X : fx_X} {Y : fx_Y} {B : fx_B} (he : ai_env X B) : ai_con l X Y B ai_T0 ai_N 246 ii_x126 := ai_case he (fun _ _ _ _ => trivial) ik_x126 ⟨ic_x19 he, ic_x125 he, trivial⟩

def ii_x127 : ai_I := (([.inr (fr 1), .inr (fr 16), .inl (2147483648, 2147483648), .inl (2147483653, 2147483653)], []), ((some (.inl (2147483648, 2147483649)), []), (([4098, 4099, 8194, 8196, 8197, 8198, 8199, 65538, 65539], [17]), 25)))
set_option maxRecDepth 100000 in
theorem ik_x127 : ai_inst (ai_T0, ai_cts [(240, ii_x19), (246, ii_x126)], ai_mem ai_inl, ii_x127.2.2.1, ([65538], [17]), ai_hds [(67, [((0, (5, 0)), ([(0, (.inr (fr 1), (0, 0))), (1, (.inr (fr 16), (0, 0))), (2, (.inl (2147483648, 2147483648), (0, 0))), (3, (.inl (2147483653, 2147483653), (0, 0))), (4, (.inl (2147483679, 2147483679), (0, 0))), (5, (.inl (2147483648, 2147483679), (0, 0)))], []))])]) 1000000 246 [(67, 0)] ii_x127 = true := by decide +kernel
theorem ic_x127 {l : Launch} {X : fx_X} {Y : fx_Y} {B : fx_B} (he : ai_env X B) : ai_con l X Y B ai_T0 ai_N 246 ii_x127 := ai_case he (fun _ _ _ _ => trivial) ik_x127 ⟨ic_x19 he, ic_x126 he, trivial⟩

def ii_x128 : ai_I := (([.inr (fr 1), .inr (fr 16), .inl (2147483652, 2147483652)], []), ((some (.inl (2147483648, 2147483649)), []), (([4098, 4099, 8194, 8196, 8197, 8198, 8199, 65538, 65539], [17]), 26)))
set_option maxRecDepth 100000 in
theorem ik_x128 : ai_inst (ai_T0, ai_cts [(240, ii_x19), (246, ii_x127), (247, ii_x21)], ai_mem ai_inl, ii_x128.2.2.1, ([4098, 4099, 65538, 65539], [17]), ai_hds []) 1000000 278 [] ii_x128 = true := by decide +kernel
theorem ic_x128 {l : Launch} {X : fx_X} {Y : fx_Y} {B : fx_B} (he : ai_env X B) : ai_con l X Y B ai_T0 ai_N 278 ii_x128 := ai_case he (fun _ _ _ _ => trivial) ik_x128 ⟨ic_x19 he, ic_x127 he, ic_x21 he, trivial⟩

def ii_x129 : ai_I := (([.inr (fr 1), .inr (fr 16), .inl (2147483653, 2147483653), .inl (2147483652, 2147483652)], []), ((some (.inl (2147483648, 2147483649)), []), (([4098, 4099, 8194, 8196, 8197, 8198, 8199, 65538, 65539], [17]), 27)))
set_option maxRecDepth 100000 in
theorem ik_x129 : ai_inst (ai_T0, ai_cts [(278, ii_x128)], ai_mem ai_inl, ii_x129.2.2.1, ([], []), ai_hds []) 1000000 246 [(67, 0)] ii_x129 = true := by decide +kernel
theorem ic_x129 {l : Launch} {X : fx_X} {Y : fx_Y} {B : fx_B} (he : ai_env X B) : ai_con l X Y B ai_T0 ai_N 246 ii_x129 := ai_case he (fun _ _ _ _ => trivial) ik_x129 ⟨ic_x128 he, trivial⟩

def ii_x130 : ai_I := (([.inr (fr 1), .inr (fr 16), .inl (2147483652, 2147483652), .inl (2147483652, 2147483652)], []), ((some (.inl (2147483648, 2147483649)), []), (([4098, 4099, 8194, 8196, 8197, 8198, 8199, 65538, 65539], [17]), 28)))
set_option maxRecDepth 100000 in
theorem ik_x130 : ai_inst (ai_T0, ai_cts [(240, ii_x19), (246, ii_x129)], ai_mem ai_inl, ii_x130.2.2.1, ([65538], [17]), ai_hds [(67, [((0, (5, 0)), ([(0, (.inr (fr 1), (0, 0))), (1, (.inr (fr 16), (0, 0))), (2, (.inl (2147483652, 2147483652), (0, 0))), (3, (.inl (2147483652, 2147483652), (0, 0))), (4, (.inl (2147483679, 2147483679), (0, 0))), (5, (.inl (2147483648, 2147483679), (0, 0)))], []))])]) 1000000 246 [(67, 0)] ii_x130 = true := by decide +kernel
theorem ic_x130 {l : Launch} {X : fx_X} {Y : fx_Y} {B : fx_B} (he : ai_env X B) : ai_con l X Y B ai_T0 ai_N 246 ii_x130 := ai_case he (fun _ _ _ _ => trivial) ik_x130 ⟨ic_x19 he, ic_x129 he, trivial⟩

def ii_x131 : ai_I := (([.inr (fr 1), .inr (fr 16), .inl (2147483651, 2147483651), .inl (2147483652, 2147483652)], []), ((some (.inl (2147483648, 2147483649)), []), (([4098, 4099, 8194, 8196, 8197, 8198, 8199, 65538, 65539], [17]), 29)))
set_option maxRecDepth 100000 in
theorem ik_x131 : ai_inst (ai_T0, ai_cts [(240, ii_x19), (246, ii_x130)], ai_mem ai_inl, ii_x131.2.2.1, ([65538], [17]), ai_hds [(67, [((0, (5, 0)), ([(0, (.inr (fr 1), (0, 0))), (1, (.inr (fr 16), (0, 0))), (2, (.inl (2147483651, 2147483651), (0, 0))), (3, (.inl (2147483652, 2147483652), (0, 0))), (4, (.inl (2147483679, 2147483679), (0, 0))), (5, (.inl (2147483648, 2147483679), (0, 0)))], []))])]) 1000000 246 [(67, 0)] ii_x131 = true := by decide +kernel
theorem ic_x131 {l : Launch} {X : fx_X} {Y : fx_Y} {B : fx_B} (he : ai_env X B) : ai_con l X Y B ai_T0 ai_N 246 ii_x131 := ai_case he (fun _ _ _ _ => trivial) ik_x131 ⟨ic_x19 he, ic_x130 he, trivial⟩

def ii_x132 : ai_I := (([.inr (fr 1), .inr (fr 16), .inl (2147483652, 2147483652)], []), ((some (.inl (2147483648, 2147483649)), []), (([4098, 4099, 8194, 8196, 8197, 8198, 8199, 65538, 65539], [17]), 24)))
set_option maxRecDepth 100000 in
theorem ik_x132 : ai_inst (ai_T0, ai_cts [(240, ii_x19), (246, ii_x125)], ai_mem ai_inl, ii_x132.2.2.1, ([65538], [17]), ai_hds []) 1000000 279 [] ii_x132 = true := by decide +kernel
theorem ic_x132 {l : Launch} {X : fx_X} {Y : fx_Y} {B : fx_B} (he : ai_env X B) : ai_con l X Y B ai_T0 ai_N 279 ii_x132 := ai_case he (fun _ _ _ _ => trivial) ik_x132 ⟨ic_x19 he, ic_x125 he, trivial⟩

def ii_x133 : ai_I := (([.inr (fr 1), .inr (fr 16), .inl (2147483650, 2147483650), .inl (2147483652, 2147483652)], []), ((some (.inl (2147483648, 2147483649)), []), (([4098, 4099, 8194, 8196, 8197, 8198, 8199, 65538, 65539], [17]), 30)))
set_option maxRecDepth 100000 in
theorem ik_x133 : ai_inst (ai_T0, ai_cts [(240, ii_x19), (246, ii_x131), (279, ii_x132)], ai_mem ai_inl, ii_x133.2.2.1, ([65538], [17]), ai_hds [(67, [((0, (5, 0)), ([(0, (.inr (fr 1), (0, 0))), (1, (.inr (fr 16), (0, 0))), (2, (.inl (2147483650, 2147483650), (0, 0))), (3, (.inl (2147483652, 2147483652), (0, 0))), (4, (.inl (2147483649, 2147483649), (0, 0))), (5, (.inl (2147483648, 2147483649), (0, 0)))], [(4096, (.inr (fr 2), (0, 0)))]))])]) 1000000 246 [(67, 0)] ii_x133 = true := by decide +kernel
theorem ic_x133 {l : Launch} {X : fx_X} {Y : fx_Y} {B : fx_B} (he : ai_env X B) : ai_con l X Y B ai_T0 ai_N 246 ii_x133 := ai_case he (fun _ _ _ _ => trivial) ik_x133 ⟨ic_x19 he, ic_x131 he, ic_x132 he, trivial⟩

def ii_x134 : ai_I := (([.inr (fr 1), .inr (fr 16), .inl (2147483649, 2147483649), .inl (2147483652, 2147483652)], []), ((some (.inl (2147483648, 2147483649)), []), (([4098, 4099, 8194, 8196, 8197, 8198, 8199, 65538, 65539], [17]), 31)))
set_option maxRecDepth 100000 in
theorem ik_x134 : ai_inst (ai_T0, ai_cts [(240, ii_x19), (246, ii_x133)], ai_mem ai_inl, ii_x134.2.2.1, ([65538], [17]), ai_hds [(67, [((0, (5, 0)), ([(0, (.inr (fr 1), (0, 0))), (1, (.inr (fr 16), (0, 0))), (2, (.inl (2147483649, 2147483649), (0, 0))), (3, (.inl (2147483652, 2147483652), (0, 0))), (4, (.inl (2147483679, 2147483679), (0, 0))), (5, (.inl (2147483648, 2147483679), (0, 0)))], []))])]) 1000000 246 [(67, 0)] ii_x134 = true := by decide +kernel
theorem ic_x134 {l : Launch} {X : fx_X} {Y : fx_Y} {B : fx_B} (he : ai_env X B) : ai_con l X Y B ai_T0 ai_N 246 ii_x134 := ai_case he (fun _ _ _ _ => trivial) ik_x134 ⟨ic_x19 he, ic_x133 he, trivial⟩

def ii_x135 : ai_I := (([.inr (fr 1), .inr (fr 16), .inl (2147483648, 2147483648), .inl (2147483652, 2147483652)], []), ((some (.inl (2147483648, 2147483649)), []), (([4098, 4099, 8194, 8196, 8197, 8198, 8199, 65538, 65539], [17]), 32)))
set_option maxRecDepth 100000 in
theorem ik_x135 : ai_inst (ai_T0, ai_cts [(240, ii_x19), (246, ii_x134)], ai_mem ai_inl, ii_x135.2.2.1, ([65538], [17]), ai_hds [(67, [((0, (5, 0)), ([(0, (.inr (fr 1), (0, 0))), (1, (.inr (fr 16), (0, 0))), (2, (.inl (2147483648, 2147483648), (0, 0))), (3, (.inl (2147483652, 2147483652), (0, 0))), (4, (.inl (2147483679, 2147483679), (0, 0))), (5, (.inl (2147483648, 2147483679), (0, 0)))], []))])]) 1000000 246 [(67, 0)] ii_x135 = true := by decide +kernel
theorem ic_x135 {l : Launch} {X : fx_X} {Y : fx_Y} {B : fx_B} (he : ai_env X B) : ai_con l X Y B ai_T0 ai_N 246 ii_x135 := ai_case he (fun _ _ _ _ => trivial) ik_x135 ⟨ic_x19 he, ic_x134 he, trivial⟩

def ii_x136 : ai_I := (([.inr (fr 1), .inr (fr 16), .inl (2147483651, 2147483651)], []), ((some (.inl (2147483648, 2147483649)), []), (([4098, 4099, 8194, 8196, 8197, 8198, 8199, 65538, 65539], [17]), 33)))
set_option maxRecDepth 100000 in
theorem ik_x136 : ai_inst (ai_T0, ai_cts [(240, ii_x19), (246, ii_x135), (247, ii_x21)], ai_mem ai_inl, ii_x136.2.2.1, ([4098, 4099, 65538, 65539], [17]), ai_hds []) 1000000 278 [] ii_x136 = true := by decide +kernel
theorem ic_x136 {l : Launch} {X : fx_X} {Y : fx_Y} {B : fx_B} (he : ai_env X B) : ai_con l X Y B ai_T0 ai_N 278 ii_x136 := ai_case he (fun _ _ _ _ => trivial) ik_x136 ⟨ic_x19 he, ic_x135 he, ic_x21 he, trivial⟩

def ii_x137 : ai_I := (([.inr (fr 1), .inr (fr 16), .inl (2147483653, 2147483653), .inl (2147483651, 2147483651)], []), ((some (.inl (2147483648, 2147483649)), []), (([4098, 4099, 8194, 8196, 8197, 8198, 8199, 65538, 65539], [17]), 34)))
set_option maxRecDepth 100000 in
theorem ik_x137 : ai_inst (ai_T0, ai_cts [(278, ii_x136)], ai_mem ai_inl, ii_x137.2.2.1, ([], []), ai_hds []) 1000000 246 [(67, 0)] ii_x137 = true := by decide +kernel
theorem ic_x137 {l : Launch} {X : fx_X} {Y : fx_Y} {B : fx_B} (he : ai_env X B) : ai_con l X Y B ai_T0 ai_N 246 ii_x137 := ai_case he (fun _ _ _ _ => trivial) ik_x137 ⟨ic_x136 he, trivial⟩

def ii_x138 : ai_I := (([.inr (fr 1), .inr (fr 16), .inl (2147483652, 2147483652), .inl (2147483651, 2147483651)], []), ((some (.inl (2147483648, 2147483649)), []), (([4098, 4099, 8194, 8196, 8197, 8198, 8199, 65538, 65539], [17]), 35)))
set_option maxRecDepth 100000 in
theorem ik_x138 : ai_inst (ai_T0, ai_cts [(240, ii_x19), (246, ii_x137)], ai_mem ai_inl, ii_x138.2.2.1, ([65538], [17]), ai_hds [(67, [((0, (5, 0)), ([(0, (.inr (fr 1), (0, 0))), (1, (.inr (fr 16), (0, 0))), (2, (.inl (2147483652, 2147483652), (0, 0))), (3, (.inl (2147483651, 2147483651), (0, 0))), (4, (.inl (2147483679, 2147483679), (0, 0))), (5, (.inl (2147483648, 2147483679), (0, 0)))], []))])]) 1000000 246 [(67, 0)] ii_x138 = true := by decide +kernel
theorem ic_x138 {l : Launch} {X : fx_X} {Y : fx_Y} {B : fx_B} (he : ai_env X B) : ai_con l X Y B ai_T0 ai_N 246 ii_x138 := ai_case he (fun _ _ _ _ => trivial) ik_x138 ⟨ic_x19 he, ic_x137 he, trivial⟩

def ii_x139 : ai_I := (([.inr (fr 1), .inr (fr 16), .inl (2147483651, 2147483651), .inl (2147483651, 2147483651)], []), ((some (.inl (2147483648, 2147483649)), []), (([4098, 4099, 8194, 8196, 8197, 8198, 8199, 65538, 65539], [17]), 36)))
set_option maxRecDepth 100000 in
theorem ik_x139 : ai_inst (ai_T0, ai_cts [(240, ii_x19), (246, ii_x138)], ai_mem ai_inl, ii_x139.2.2.1, ([65538], [17]), ai_hds [(67, [((0, (5, 0)), ([(0, (.inr (fr 1), (0, 0))), (1, (.inr (fr 16), (0, 0))), (2, (.inl (2147483651, 2147483651), (0, 0))), (3, (.inl (2147483651, 2147483651), (0, 0))), (4, (.inl (2147483679, 2147483679), (0, 0))), (5, (.inl (2147483648, 2147483679), (0, 0)))], []))])]) 1000000 246 [(67, 0)] ii_x139 = true := by decide +kernel
theorem ic_x139 {l : Launch} {X : fx_X} {Y : fx_Y} {B : fx_B} (he : ai_env X B) : ai_con l X Y B ai_T0 ai_N 246 ii_x139 := ai_case he (fun _ _ _ _ => trivial) ik_x139 ⟨ic_x19 he, ic_x138 he, trivial⟩

def ii_x140 : ai_I := (([.inr (fr 1), .inr (fr 16), .inl (2147483651, 2147483651)], []), ((some (.inl (2147483648, 2147483649)), []), (([4098, 4099, 8194, 8196, 8197, 8198, 8199, 65538, 65539], [17]), 31)))
set_option maxRecDepth 100000 in
theorem ik_x140 : ai_inst (ai_T0, ai_cts [(240, ii_x19), (246, ii_x133)], ai_mem ai_inl, ii_x140.2.2.1, ([65538], [17]), ai_hds []) 1000000 279 [] ii_x140 = true := by decide +kernel
theorem ic_x140 {l : Launch} {X : fx_X} {Y : fx_Y} {B : fx_B} (he : ai_env X B) : ai_con l X Y B ai_T0 ai_N 279 ii_x140 := ai_case he (fun _ _ _ _ => trivial) ik_x140 ⟨ic_x19 he, ic_x133 he, trivial⟩

def ii_x141 : ai_I := (([.inr (fr 1), .inr (fr 16), .inl (2147483650, 2147483650), .inl (2147483651, 2147483651)], []), ((some (.inl (2147483648, 2147483649)), []), (([4098, 4099, 8194, 8196, 8197, 8198, 8199, 65538, 65539], [17]), 37)))
set_option maxRecDepth 100000 in
theorem ik_x141 : ai_inst (ai_T0, ai_cts [(240, ii_x19), (246, ii_x139), (279, ii_x140)], ai_mem ai_inl, ii_x141.2.2.1, ([65538], [17]), ai_hds [(67, [((0, (5, 0)), ([(0, (.inr (fr 1), (0, 0))), (1, (.inr (fr 16), (0, 0))), (2, (.inl (2147483650, 2147483650), (0, 0))), (3, (.inl (2147483651, 2147483651), (0, 0))), (4, (.inl (2147483649, 2147483649), (0, 0))), (5, (.inl (2147483648, 2147483649), (0, 0)))], [(4096, (.inr (fr 2), (0, 0)))]))])]) 1000000 246 [(67, 0)] ii_x141 = true := by decide +kernel
theorem ic_x141 {l : Launch} {X : fx_X} {Y : fx_Y} {B : fx_B} (he : ai_env X B) : ai_con l X Y B ai_T0 ai_N 246 ii_x141 := ai_case he (fun _ _ _ _ => trivial) ik_x141 ⟨ic_x19 he, ic_x139 he, ic_x140 he, trivial⟩

def ii_x142 : ai_I := (([.inr (fr 1), .inr (fr 16), .inl (2147483649, 2147483649), .inl (2147483651, 2147483651)], []), ((some (.inl (2147483648, 2147483649)), []), (([4098, 4099, 8194, 8196, 8197, 8198, 8199, 65538, 65539], [17]), 38)))
set_option maxRecDepth 100000 in
theorem ik_x142 : ai_inst (ai_T0, ai_cts [(240, ii_x19), (246, ii_x141)], ai_mem ai_inl, ii_x142.2.2.1, ([65538], [17]), ai_hds [(67, [((0, (5, 0)), ([(0, (.inr (fr 1), (0, 0))), (1, (.inr (fr 16), (0, 0))), (2, (.inl (2147483649, 2147483649), (0, 0))), (3, (.inl (2147483651, 2147483651), (0, 0))), (4, (.inl (2147483679, 2147483679), (0, 0))), (5, (.inl (2147483648, 2147483679), (0, 0)))], []))])]) 1000000 246 [(67, 0)] ii_x142 = true := by decide +kernel
theorem ic_x142 {l : Launch} {X : fx_X} {Y : fx_Y} {B : fx_B} (he : ai_env X B) : ai_con l X Y B ai_T0 ai_N 246 ii_x142 := ai_case he (fun _ _ _ _ => trivial) ik_x142 ⟨ic_x19 he, ic_x141 he, trivial⟩

def ii_x143 : ai_I := (([.inr (fr 1), .inr (fr 16), .inl (2147483648, 2147483648), .inl (2147483651, 2147483651)], []), ((some (.inl (2147483648, 2147483649)), []), (([4098, 4099, 8194, 8196, 8197, 8198, 8199, 65538, 65539], [17]), 39)))
set_option maxRecDepth 100000 in
theorem ik_x143 : ai_inst (ai_T0, ai_cts [(240, ii_x19), (246, ii_x142)], ai_mem ai_inl, ii_x143.2.2.1, ([65538], [17]), ai_hds [(67, [((0, (5, 0)), ([(0, (.inr (fr 1), (0, 0))), (1, (.inr (fr 16), (0, 0))), (2, (.inl (2147483648, 2147483648), (0, 0))), (3, (.inl (2147483651, 2147483651), (0, 0))), (4, (.inl (2147483679, 2147483679), (0, 0))), (5, (.inl (2147483648, 2147483679), (0, 0)))], []))])]) 1000000 246 [(67, 0)] ii_x143 = true := by decide +kernel
theorem ic_x143 {l : Launch} {X : fx_X} {Y : fx_Y} {B : fx_B} (he : ai_env X B) : ai_con l X Y B ai_T0 ai_N 246 ii_x143 := ai_case he (fun _ _ _ _ => trivial) ik_x143 ⟨ic_x19 he, ic_x142 he, trivial⟩

def ii_x144 : ai_I := (([.inr (fr 1), .inr (fr 16), .inl (2147483650, 2147483650)], []), ((some (.inl (2147483648, 2147483649)), []), (([4098, 4099, 8194, 8196, 8197, 8198, 8199, 65538, 65539], [17]), 40)))
set_option maxRecDepth 100000 in
theorem ik_x144 : ai_inst (ai_T0, ai_cts [(240, ii_x19), (246, ii_x143), (247, ii_x21)], ai_mem ai_inl, ii_x144.2.2.1, ([4098, 4099, 65538, 65539], [17]), ai_hds []) 1000000 278 [] ii_x144 = true := by decide +kernel
theorem ic_x144 {l : Launch} {X : fx_X} {Y : fx_Y} {B : fx_B} (he : ai_env X B) : ai_con l X Y B ai_T0 ai_N 278 ii_x144 := ai_case he (fun _ _ _ _ => trivial) ik_x144 ⟨ic_x19 he, ic_x143 he, ic_x21 he, trivial⟩

def ii_x145 : ai_I := (([.inr (fr 1), .inr (fr 16), .inl (2147483653, 2147483653), .inl (2147483650, 2147483650)], []), ((some (.inl (2147483648, 2147483649)), []), (([4098, 4099, 8194, 8196, 8197, 8198, 8199, 65538, 65539], [17]), 41)))
set_option maxRecDepth 100000 in
theorem ik_x145 : ai_inst (ai_T0, ai_cts [(278, ii_x144)], ai_mem ai_inl, ii_x145.2.2.1, ([], []), ai_hds []) 1000000 246 [(67, 0)] ii_x145 = true := by decide +kernel
theorem ic_x145 {l : Launch} {X : fx_X} {Y : fx_Y} {B : fx_B} (he : ai_env X B) : ai_con l X Y B ai_T0 ai_N 246 ii_x145 := ai_case he (fun _ _ _ _ => trivial) ik_x145 ⟨ic_x144 he, trivial⟩

def ii_x146 : ai_I := (([.inr (fr 1), .inr (fr 16), .inl (2147483652, 2147483652), .inl (2147483650, 2147483650)], []), ((some (.inl (2147483648, 2147483649)), []), (([4098, 4099, 8194, 8196, 8197, 8198, 8199, 65538, 65539], [17]), 42)))
set_option maxRecDepth 100000 in
theorem ik_x146 : ai_inst (ai_T0, ai_cts [(240, ii_x19), (246, ii_x145)], ai_mem ai_inl, ii_x146.2.2.1, ([65538], [17]), ai_hds [(67, [((0, (5, 0)), ([(0, (.inr (fr 1), (0, 0))), (1, (.inr (fr 16), (0, 0))), (2, (.inl (2147483652, 2147483652), (0, 0))), (3, (.inl (2147483650, 2147483650), (0, 0))), (4, (.inl (2147483679, 2147483679), (0, 0))), (5, (.inl (2147483648, 2147483679), (0, 0)))], []))])]) 1000000 246 [(67, 0)] ii_x146 = true := by decide +kernel
theorem ic_x146 {l : Launch} {X : fx_X} {Y : fx_Y} {B : fx_B} (he : ai_env X B) : ai_con l X Y B ai_T0 ai_N 246 ii_x146 := ai_case he (fun _ _ _ _ => trivial) ik_x146 ⟨ic_x19 he, ic_x145 he, trivial⟩

def ii_x147 : ai_I := (([.inr (fr 1), .inr (fr 16), .inl (2147483651, 2147483651), .inl (2147483650, 2147483650)], []), ((some (.inl (2147483648, 2147483649)), []), (([4098, 4099, 8194, 8196, 8197, 8198, 8199, 65538, 65539], [17]), 43)))
set_option maxRecDepth 100000 in
theorem ik_x147 : ai_inst (ai_T0, ai_cts [(240, ii_x19), (246, ii_x146)], ai_mem ai_inl, ii_x147.2.2.1, ([65538], [17]), ai_hds [(67, [((0, (5, 0)), ([(0, (.inr (fr 1), (0, 0))), (1, (.inr (fr 16), (0, 0))), (2, (.inl (2147483651, 2147483651), (0, 0))), (3, (.inl (2147483650, 2147483650), (0, 0))), (4, (.inl (2147483679, 2147483679), (0, 0))), (5, (.inl (2147483648, 2147483679), (0, 0)))], []))])]) 1000000 246 [(67, 0)] ii_x147 = true := by decide +kernel
theorem ic_x147 {l : Launch} {X : fx_X} {Y : fx_Y} {B : fx_B} (he : ai_env X B) : ai_con l X Y B ai_T0 ai_N 246 ii_x147 := ai_case he (fun _ _ _ _ => trivial) ik_x147 ⟨ic_x19 he, ic_x146 he, trivial⟩

def ii_x148 : ai_I := (([.inr (fr 1), .inr (fr 16), .inl (2147483650, 2147483650)], []), ((some (.inl (2147483648, 2147483649)), []), (([4098, 4099, 8194, 8196, 8197, 8198, 8199, 65538, 65539], [17]), 38)))
set_option maxRecDepth 100000 in
theorem ik_x148 : ai_inst (ai_T0, ai_cts [(240, ii_x19), (246, ii_x141)], ai_mem ai_inl, ii_x148.2.2.1, ([65538], [17]), ai_hds []) 1000000 279 [] ii_x148 = true := by decide +kernel
theorem ic_x148 {l : Launch} {X : fx_X} {Y : fx_Y} {B : fx_B} (he : ai_env X B) : ai_con l X Y B ai_T0 ai_N 279 ii_x148 := ai_case he (fun _ _ _ _ => trivial) ik_x148 ⟨ic_x19 he, ic_x141 he, trivial⟩

def ii_x149 : ai_I := (([.inr (fr 1), .inr (fr 16), .inl (2147483650, 2147483650), .inl (2147483650, 2147483650)], []), ((some (.inl (2147483648, 2147483649)), []), (([4098, 4099, 8194, 8196, 8197, 8198, 8199, 65538, 65539], [17]), 44)))
set_option maxRecDepth 100000 in
theorem ik_x149 : ai_inst (ai_T0, ai_cts [(240, ii_x19), (246, ii_x147), (279, ii_x148)], ai_mem ai_inl, ii_x149.2.2.1, ([65538], [17]), ai_hds [(67, [((0, (5, 0)), ([(0, (.inr (fr 1), (0, 0))), (1, (.inr (fr 16), (0, 0))), (2, (.inl (2147483650, 2147483650), (0, 0))), (3, (.inl (2147483650, 2147483650), (0, 0))), (4, (.inl (2147483649, 2147483649), (0, 0))), (5, (.inl (2147483648, 2147483649), (0, 0)))], [(4096, (.inr (fr 2), (0, 0)))]))])]) 1000000 246 [(67, 0)] ii_x149 = true := by decide +kernel
theorem ic_x149 {l : Launch} {X : fx_X} {Y : fx_Y} {B : fx_B} (he : ai_env X B) : ai_con l X Y B ai_T0 ai_N 246 ii_x149 := ai_case he (fun _ _ _ _ => trivial) ik_x149 ⟨ic_x19 he, ic_x147 he, ic_x148 he, trivial⟩

def ii_x150 : ai_I := (([.inr (fr 1), .inr (fr 16), .inl (2147483649, 2147483649), .inl (2147483650, 2147483650)], []), ((some (.inl (2147483648, 2147483649)), []), (([4098, 4099, 8194, 8196, 8197, 8198, 8199, 65538, 65539], [17]), 45)))
set_option maxRecDepth 100000 in
theorem ik_x150 : ai_inst (ai_T0, ai_cts [(240, ii_x19), (246, ii_x149)], ai_mem ai_inl, ii_x150.2.2.1, ([65538], [17]), ai_hds [(67, [((0, (5, 0)), ([(0, (.inr (fr 1), (0, 0))), (1, (.inr (fr 16), (0, 0))), (2, (.inl (2147483649, 2147483649), (0, 0))), (3, (.inl (2147483650, 2147483650), (0, 0))), (4, (.inl (2147483679, 2147483679), (0, 0))), (5, (.inl (2147483648, 2147483679), (0, 0)))], []))])]) 1000000 246 [(67, 0)] ii_x150 = true := by decide +kernel
theorem ic_x150 {l : Launch} {X : fx_X} {Y : fx_Y} {B : fx_B} (he : ai_env X B) : ai_con l X Y B ai_T0 ai_N 246 ii_x150 := ai_case he (fun _ _ _ _ => trivial) ik_x150 ⟨ic_x19 he, ic_x149 he, trivial⟩

def ii_x151 : ai_I := (([.inr (fr 1), .inr (fr 16), .inl (2147483648, 2147483648), .inl (2147483650, 2147483650)], []), ((some (.inl (2147483648, 2147483649)), []), (([4098, 4099, 8194, 8196, 8197, 8198, 8199, 65538, 65539], [17]), 46)))
set_option maxRecDepth 100000 in
theorem ik_x151 : ai_inst (ai_T0, ai_cts [(240, ii_x19), (246, ii_x150)], ai_mem ai_inl, ii_x151.2.2.1, ([65538], [17]), ai_hds [(67, [((0, (5, 0)), ([(0, (.inr (fr 1), (0, 0))), (1, (.inr (fr 16), (0, 0))), (2, (.inl (2147483648, 2147483648), (0, 0))), (3, (.inl (2147483650, 2147483650), (0, 0))), (4, (.inl (2147483679, 2147483679), (0, 0))), (5, (.inl (2147483648, 2147483679), (0, 0)))], []))])]) 1000000 246 [(67, 0)] ii_x151 = true := by decide +kernel
theorem ic_x151 {l : Launch} {X : fx_X} {Y : fx_Y} {B : fx_B} (he : ai_env X B) : ai_con l X Y B ai_T0 ai_N 246 ii_x151 := ai_case he (fun _ _ _ _ => trivial) ik_x151 ⟨ic_x19 he, ic_x150 he, trivial⟩
