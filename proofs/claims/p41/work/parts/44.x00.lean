def ii_x0 : ai_I := (([.inr (fr 2), .inl (0, 4294967295)], []), ((none, []), (([8195], [3]), 0)))
set_option maxRecDepth 100000 in
theorem ik_x0 : ai_inst (ai_T0, ai_cts [], ai_mem ai_inl, ii_x0.2.2.1, ([8195], [3]), ai_hds [(3, [((0, (2, 1)), ([(0, (.inr (fr 2), (0, 0))), (1, (.inl (0, 4294967295), (0, 0))), (2, (.inl (2147483520, 2147483672), (0, 0)))], []))])]) 1000000 117 [(3, 0)] ii_x0 = true := by decide +kernel
theorem ic_x0 {l : Launch} {X : fx_X} {Y : fx_Y} {B : fx_B} (he : ai_env X B) : ai_con l X Y B ai_T0 ai_N 117 ii_x0 := ai_case he (fun _ _ _ _ => trivial) ik_x0 trivial

def ii_x1 : ai_I := (([.inr (fr 0), .inl (0, 4294967295), .inl (0, 4294967295), .inl (0, 4294967295), .inl (0, 4294967295), .inl (0, 4294967295)], []), ((some (.inl (2147483647, 2147485248)), []), (([8195], [3]), 1)))
set_option maxRecDepth 100000 in
theorem ik_x1 : ai_inst (ai_T0, ai_cts [(117, ii_x0)], ai_mem ai_inl, ii_x1.2.2.1, ([], []), ai_hds []) 1000000 27 [] ii_x1 = true := by decide +kernel
theorem ic_x1 {l : Launch} {X : fx_X} {Y : fx_Y} {B : fx_B} (he : ai_env X B) : ai_con l X Y B ai_T0 ai_N 27 ii_x1 := ai_case he (fun _ _ _ _ => trivial) ik_x1 ⟨ic_x0 he, trivial⟩

def ii_x2 : ai_I := (([.inr (fr 0), .inl (0, 4294967295)], []), ((some (.inl (2147483647, 2147485248)), []), (([8195], []), 0)))
set_option maxRecDepth 100000 in
theorem ik_x2 : ai_inst (ai_T0, ai_cts [], ai_mem ai_inl, ii_x2.2.2.1, ([8195], []), ai_hds []) 1000000 29 [] ii_x2 = true := by decide +kernel
theorem ic_x2 {l : Launch} {X : fx_X} {Y : fx_Y} {B : fx_B} (he : ai_env X B) : ai_con l X Y B ai_T0 ai_N 29 ii_x2 := ai_case he (fun _ _ _ _ => trivial) ik_x2 trivial

def ii_x3 : ai_I := (([.inr (fr 23), .inl (2147483648, 2147483648)], []), ((none, []), (([], [23]), 0)))
set_option maxRecDepth 100000 in
theorem ik_x3 : ai_inst (ai_T0, ai_cts [], ai_mem ai_inl, ii_x3.2.2.1, ([], [23]), ai_hds [(5, [((0, (2, 0)), ([(0, (.inr (fr 23), (0, 0))), (1, (.inl (2147483648, 2147483648), (0, 0))), (2, (.inl (2147483648, 2147483655), (0, 0))), (3, (.inl (2147483655, 2147483655), (0, 0)))], []))])]) 1000000 14 [(5, 0)] ii_x3 = true := by decide +kernel
theorem ic_x3 {l : Launch} {X : fx_X} {Y : fx_Y} {B : fx_B} (he : ai_env X B) : ai_con l X Y B ai_T0 ai_N 14 ii_x3 := ai_case he (fun _ _ _ _ => trivial) ik_x3 trivial

def ii_x4 : ai_I := (([.inr (fr 24), .inl (2147483648, 2147483648)], []), ((none, []), (([], [24]), 0)))
set_option maxRecDepth 100000 in
theorem ik_x4 : ai_inst (ai_T0, ai_cts [], ai_mem ai_inl, ii_x4.2.2.1, ([], [24]), ai_hds [(5, [((0, (2, 0)), ([(0, (.inr (fr 24), (0, 0))), (1, (.inl (2147483648, 2147483648), (0, 0))), (2, (.inl (2147483648, 2147483655), (0, 0))), (3, (.inl (2147483655, 2147483655), (0, 0)))], []))])]) 1000000 14 [(5, 0)] ii_x4 = true := by decide +kernel
theorem ic_x4 {l : Launch} {X : fx_X} {Y : fx_Y} {B : fx_B} (he : ai_env X B) : ai_con l X Y B ai_T0 ai_N 14 ii_x4 := ai_case he (fun _ _ _ _ => trivial) ik_x4 trivial

def ii_x5 : ai_I := (([.inr (fr 25), .inl (2147483648, 2147483648)], []), ((none, []), (([], [25]), 0)))
set_option maxRecDepth 100000 in
theorem ik_x5 : ai_inst (ai_T0, ai_cts [], ai_mem ai_inl, ii_x5.2.2.1, ([], [25]), ai_hds [(5, [((0, (2, 0)), ([(0, (.inr (fr 25), (0, 0))), (1, (.inl (2147483648, 2147483648), (0, 0))), (2, (.inl (2147483648, 2147483655), (0, 0))), (3, (.inl (2147483655, 2147483655), (0, 0)))], []))])]) 1000000 14 [(5, 0)] ii_x5 = true := by decide +kernel
theorem ic_x5 {l : Launch} {X : fx_X} {Y : fx_Y} {B : fx_B} (he : ai_env X B) : ai_con l X Y B ai_T0 ai_N 14 ii_x5 := ai_case he (fun _ _ _ _ => trivial) ik_x5 trivial

def ii_x6 : ai_I := (([.inr (fr 26), .inl (2147483647, 2147483647)], []), ((none, []), (([], [26]), 0)))
set_option maxRecDepth 100000 in
theorem ik_x6 : ai_inst (ai_T0, ai_cts [], ai_mem ai_inl, ii_x6.2.2.1, ([], [26]), ai_hds [(5, [((0, (2, 0)), ([(0, (.inr (fr 26), (0, 0))), (1, (.inl (2147483647, 2147483647), (0, 0))), (2, (.inl (2147483648, 2147483655), (0, 0))), (3, (.inl (2147483655, 2147483655), (0, 0)))], []))])]) 1000000 14 [(5, 0)] ii_x6 = true := by decide +kernel
theorem ic_x6 {l : Launch} {X : fx_X} {Y : fx_Y} {B : fx_B} (he : ai_env X B) : ai_con l X Y B ai_T0 ai_N 14 ii_x6 := ai_case he (fun _ _ _ _ => trivial) ik_x6 trivial

def ii_x7 : ai_I := (([.inr (fr 19)], []), ((none, []), (([77833, 77834, 77835, 77836, 77837, 77838, 77839, 77840, 77841, 110594, 110595, 122882, 122883], [23, 24, 25, 26, 28, 31]), 1)))
set_option maxRecDepth 100000 in
theorem ik_x7 : ai_inst (ai_T0, ai_cts [(14, ii_x3), (14, ii_x4), (14, ii_x5), (14, ii_x6)], ai_mem ai_inl, ii_x7.2.2.1, ([77833, 77834, 77835, 77836, 77837, 77838, 77839, 77840, 77841, 110594, 110595, 122882, 122883], [28, 31]), ai_hds []) 1000000 13 [] ii_x7 = true := by decide +kernel
theorem ic_x7 {l : Launch} {X : fx_X} {Y : fx_Y} {B : fx_B} (he : ai_env X B) : ai_con l X Y B ai_T0 ai_N 13 ii_x7 := ai_case he (fun _ _ _ _ => trivial) ik_x7 ⟨ic_x3 he, ic_x4 he, ic_x5 he, ic_x6 he, trivial⟩

def ii_x8 : ai_I := (([.inr (fr 10), .inl (2147483648, 2147483648)], []), ((none, []), (([], [10]), 0)))
set_option maxRecDepth 100000 in
theorem ik_x8 : ai_inst (ai_T0, ai_cts [], ai_mem ai_inl, ii_x8.2.2.1, ([], [10]), ai_hds [(5, [((0, (2, 0)), ([(0, (.inr (fr 10), (0, 0))), (1, (.inl (2147483648, 2147483648), (0, 0))), (2, (.inl (2147483648, 2147483655), (0, 0))), (3, (.inl (2147483655, 2147483655), (0, 0)))], []))])]) 1000000 14 [(5, 0)] ii_x8 = true := by decide +kernel
theorem ic_x8 {l : Launch} {X : fx_X} {Y : fx_Y} {B : fx_B} (he : ai_env X B) : ai_con l X Y B ai_T0 ai_N 14 ii_x8 := ai_case he (fun _ _ _ _ => trivial) ik_x8 trivial

def ii_x9 : ai_I := (([.inr (fr 11), .inl (2147483648, 2147483648)], []), ((none, []), (([], [11]), 0)))
set_option maxRecDepth 100000 in
theorem ik_x9 : ai_inst (ai_T0, ai_cts [], ai_mem ai_inl, ii_x9.2.2.1, ([], [11]), ai_hds [(5, [((0, (2, 0)), ([(0, (.inr (fr 11), (0, 0))), (1, (.inl (2147483648, 2147483648), (0, 0))), (2, (.inl (2147483648, 2147483655), (0, 0))), (3, (.inl (2147483655, 2147483655), (0, 0)))], []))])]) 1000000 14 [(5, 0)] ii_x9 = true := by decide +kernel
theorem ic_x9 {l : Launch} {X : fx_X} {Y : fx_Y} {B : fx_B} (he : ai_env X B) : ai_con l X Y B ai_T0 ai_N 14 ii_x9 := ai_case he (fun _ _ _ _ => trivial) ik_x9 trivial

def ii_x10 : ai_I := (([.inr (fr 12), .inl (2147483647, 2147483647)], []), ((none, []), (([], [12]), 0)))
set_option maxRecDepth 100000 in
theorem ik_x10 : ai_inst (ai_T0, ai_cts [], ai_mem ai_inl, ii_x10.2.2.1, ([], [12]), ai_hds [(5, [((0, (2, 0)), ([(0, (.inr (fr 12), (0, 0))), (1, (.inl (2147483647, 2147483647), (0, 0))), (2, (.inl (2147483648, 2147483655), (0, 0))), (3, (.inl (2147483655, 2147483655), (0, 0)))], []))])]) 1000000 14 [(5, 0)] ii_x10 = true := by decide +kernel
theorem ic_x10 {l : Launch} {X : fx_X} {Y : fx_Y} {B : fx_B} (he : ai_env X B) : ai_con l X Y B ai_T0 ai_N 14 ii_x10 := ai_case he (fun _ _ _ _ => trivial) ik_x10 trivial

def ii_x11 : ai_I := (([.inr (fr 9), .inl (2147483648, 2147483648)], []), ((none, []), (([], [9]), 0)))
set_option maxRecDepth 100000 in
theorem ik_x11 : ai_inst (ai_T0, ai_cts [], ai_mem ai_inl, ii_x11.2.2.1, ([], [9]), ai_hds [(5, [((0, (2, 0)), ([(0, (.inr (fr 9), (0, 0))), (1, (.inl (2147483648, 2147483648), (0, 0))), (2, (.inl (2147483648, 2147483655), (0, 0))), (3, (.inl (2147483655, 2147483655), (0, 0)))], []))])]) 1000000 14 [(5, 0)] ii_x11 = true := by decide +kernel
theorem ic_x11 {l : Launch} {X : fx_X} {Y : fx_Y} {B : fx_B} (he : ai_env X B) : ai_con l X Y B ai_T0 ai_N 14 ii_x11 := ai_case he (fun _ _ _ _ => trivial) ik_x11 trivial

def ii_x12 : ai_I := (([.inr (fr 5)], []), ((none, []), (([20489, 20490, 20491, 20492, 20493, 20494, 20495, 20496, 20497, 53250, 53251, 65538, 65539], [9, 10, 11, 12, 14, 17]), 1)))
set_option maxRecDepth 100000 in
theorem ik_x12 : ai_inst (ai_T0, ai_cts [(14, ii_x8), (14, ii_x9), (14, ii_x10), (14, ii_x11)], ai_mem ai_inl, ii_x12.2.2.1, ([20489, 20490, 20491, 20492, 20493, 20494, 20495, 20496, 20497, 53250, 53251, 65538, 65539], [14, 17]), ai_hds []) 1000000 13 [] ii_x12 = true := by decide +kernel
theorem ic_x12 {l : Launch} {X : fx_X} {Y : fx_Y} {B : fx_B} (he : ai_env X B) : ai_con l X Y B ai_T0 ai_N 13 ii_x12 := ai_case he (fun _ _ _ _ => trivial) ik_x12 ⟨ic_x8 he, ic_x9 he, ic_x10 he, ic_x11 he, trivial⟩

def ii_x13 : ai_I := (([.inr (fr 2)], []), ((none, []), (([8194, 8196, 8199], []), 1)))
set_option maxRecDepth 100000 in
theorem ik_x13 : ai_inst (ai_T0, ai_cts [], ai_mem ai_inl, ii_x13.2.2.1, ([8194, 8196, 8199], []), ai_hds [(10, [((0, (1, 0)), ([(0, (.inr (fr 2), (0, 0))), (1, (.inl (2147483648, 2147485248), (0, 0)))], []))]), (92, [((0, (1, 0)), ([(0, (.inr (fr 2), (0, 0))), (1, (.inl (2147483648, 2147483677), (0, 0)))], [(8196, (.inl (2147483649, 2147483927), (0, 0)))]))])]) 1000000 268 [(10, 0), (92, 0)] ii_x13 = true := by decide +kernel
theorem ic_x13 {l : Launch} {X : fx_X} {Y : fx_Y} {B : fx_B} (he : ai_env X B) : ai_con l X Y B ai_T0 ai_N 268 ii_x13 := ai_case he (fun _ _ _ _ => trivial) ik_x13 trivial

def ii_x14 : ai_I := (([.inr (fr 2)], []), ((none, []), (([8194, 8196, 8198], []), 1)))
set_option maxRecDepth 100000 in
theorem ik_x14 : ai_inst (ai_T0, ai_cts [], ai_mem ai_inl, ii_x14.2.2.1, ([8194, 8196, 8198], []), ai_hds [(10, [((0, (1, 0)), ([(0, (.inr (fr 2), (0, 0))), (1, (.inl (2147483648, 2147485248), (0, 0)))], []))])]) 1000000 270 [(10, 0)] ii_x14 = true := by decide +kernel
theorem ic_x14 {l : Launch} {X : fx_X} {Y : fx_Y} {B : fx_B} (he : ai_env X B) : ai_con l X Y B ai_T0 ai_N 270 ii_x14 := ai_case he (fun _ _ _ _ => trivial) ik_x14 trivial

def ii_x15 : ai_I := (([.inr (fr 1000005), .inl (2147483648, 2147483903), .inl (2147483648, 2147483648), .inl (2147483659, 2147483659)], []), ((some (.inl (2147483647, 2147483658)), []), (([], []), 0)))
set_option maxRecDepth 100000 in
theorem ik_x15 : ai_inst (ai_T0, ai_cts [], ai_mem ai_inl, ii_x15.2.2.1, ([], []), ai_hds [(7, [((0, (5, 0)), ([(0, (.inr (fr 1000005), (0, 0))), (1, (.inl (2147483648, 2147483903), (0, 0))), (2, (.inl (2147483648, 2147483648), (0, 0))), (3, (.inl (2147483659, 2147483659), (0, 0))), (4, (.inl (2147483520, 2147483775), (0, 0))), (5, (.inl (2147483648, 2147483663), (0, 0)))], []))])]) 1000000 292 [(7, 0)] ii_x15 = true := by decide +kernel
theorem ic_x15 {l : Launch} {X : fx_X} {Y : fx_Y} {B : fx_B} (he : ai_env X B) : ai_con l X Y B ai_T0 ai_N 292 ii_x15 := ai_case he (fun _ _ _ _ => trivial) ik_x15 trivial

def ii_x16 : ai_I := (([.inr (fr 1000005), .inl (2147483648, 2147483903), .inl (2147483648, 2147483648), .inl (2147483659, 2147483659)], []), ((some (.inl (2147483647, 2147483658)), []), (([], []), 1)))
set_option maxRecDepth 100000 in
theorem ik_x16 : ai_inst (ai_T0, ai_cts [(292, ii_x15)], ai_mem ai_inl, ii_x16.2.2.1, ([], []), ai_hds []) 1000000 290 [] ii_x16 = true := by decide +kernel
theorem ic_x16 {l : Launch} {X : fx_X} {Y : fx_Y} {B : fx_B} (he : ai_env X B) : ai_con l X Y B ai_T0 ai_N 290 ii_x16 := ai_case he (fun _ _ _ _ => trivial) ik_x16 ⟨ic_x15 he, trivial⟩

def ii_x17 : ai_I := (([.inr (fr 1000004), .inl (2147483648, 2147483903), .inl (2147483648, 2147483648)], []), ((some (.inl (2147483647, 2147483658)), []), (([], []), 2)))
set_option maxRecDepth 100000 in
theorem ik_x17 : ai_inst (ai_T0, ai_cts [(290, ii_x16)], ai_mem ai_inl, ii_x17.2.2.1, ([], []), ai_hds []) 1000000 284 [] ii_x17 = true := by decide +kernel
theorem ic_x17 {l : Launch} {X : fx_X} {Y : fx_Y} {B : fx_B} (he : ai_env X B) : ai_con l X Y B ai_T0 ai_N 284 ii_x17 := ai_case he (fun _ _ _ _ => trivial) ik_x17 ⟨ic_x16 he, trivial⟩

def ii_x18 : ai_I := (([.inr (fr 1000004), .inl (2147483648, 2147483903)], []), ((some (.inl (2147483647, 2147483658)), []), (([], []), 3)))
set_option maxRecDepth 100000 in
theorem ik_x18 : ai_inst (ai_T0, ai_cts [(284, ii_x17)], ai_mem ai_inl, ii_x18.2.2.1, ([], []), ai_hds []) 1000000 271 [] ii_x18 = true := by decide +kernel
theorem ic_x18 {l : Launch} {X : fx_X} {Y : fx_Y} {B : fx_B} (he : ai_env X B) : ai_con l X Y B ai_T0 ai_N 271 ii_x18 := ai_case he (fun _ _ _ _ => trivial) ik_x18 ⟨ic_x17 he, trivial⟩

def ii_x19 : ai_I := (([.inr (fr 2)], []), ((none, []), (([8194, 8196, 8197, 8198, 8199], []), 4)))
set_option maxRecDepth 100000 in
theorem ik_x19 : ai_inst (ai_T0, ai_cts [(268, ii_x13), (270, ii_x14), (271, ii_x18)], ai_mem ai_inl, ii_x19.2.2.1, ([8194, 8196, 8197], []), ai_hds [(13, [((0, (1, 0)), ([(0, (.inr (fr 2), (0, 0))), (1, (.inl (2147483648, 2147485248), (0, 0)))], []))])]) 1000000 240 [(13, 0)] ii_x19 = true := by decide +kernel
theorem ic_x19 {l : Launch} {X : fx_X} {Y : fx_Y} {B : fx_B} (he : ai_env X B) : ai_con l X Y B ai_T0 ai_N 240 ii_x19 := ai_case he (fun _ _ _ _ => trivial) ik_x19 ⟨ic_x13 he, ic_x14 he, ic_x18 he, trivial⟩

def ii_x20 : ai_I := (([.inr (fr 2)], []), ((none, []), (([8194, 8196, 8197, 8198, 8199], []), 5)))
set_option maxRecDepth 100000 in
theorem ik_x20 : ai_inst (ai_T0, ai_cts [(240, ii_x19)], ai_mem ai_inl, ii_x20.2.2.1, ([8194], []), ai_hds []) 1000000 211 [] ii_x20 = true := by decide +kernel
theorem ic_x20 {l : Launch} {X : fx_X} {Y : fx_Y} {B : fx_B} (he : ai_env X B) : ai_con l X Y B ai_T0 ai_N 211 ii_x20 := ai_case he (fun _ _ _ _ => trivial) ik_x20 ⟨ic_x19 he, trivial⟩

def ii_x21 : ai_I := (([.inr (fr 1), .inl (2147483689, 2147483927)], []), ((some (.inl (2147483648, 2147483649)), []), (([4098, 4099, 8194, 8196, 8197, 8198, 8199], []), 5)))
set_option maxRecDepth 100000 in
theorem ik_x21 : ai_inst (ai_T0, ai_cts [(240, ii_x19)], ai_mem ai_inl, ii_x21.2.2.1, ([4098, 4099], []), ai_hds []) 1000000 247 [] ii_x21 = true := by decide +kernel
theorem ic_x21 {l : Launch} {X : fx_X} {Y : fx_Y} {B : fx_B} (he : ai_env X B) : ai_con l X Y B ai_T0 ai_N 247 ii_x21 := ai_case he (fun _ _ _ _ => trivial) ik_x21 ⟨ic_x19 he, trivial⟩

def ii_x22 : ai_I := (([.inr (fr 1)], []), ((some (.inl (2147483648, 2147483649)), []), (([4098, 4099, 8194, 8196, 8197, 8198, 8199, 20489, 20490, 77833, 77834], []), 6)))
set_option maxRecDepth 100000 in
theorem ik_x22 : ai_inst (ai_T0, ai_cts [(240, ii_x19), (247, ii_x21)], ai_mem ai_inl, ii_x22.2.2.1, ([4098, 4099, 20489, 20490, 77833, 77834], []), ai_hds []) 1000000 241 [] ii_x22 = true := by decide +kernel
theorem ic_x22 {l : Launch} {X : fx_X} {Y : fx_Y} {B : fx_B} (he : ai_env X B) : ai_con l X Y B ai_T0 ai_N 241 ii_x22 := ai_case he (fun _ _ _ _ => trivial) ik_x22 ⟨ic_x19 he, ic_x21 he, trivial⟩

def ii_x23 : ai_I := (([.inr (fr 1), .inr (fr 20), .inl (2147483648, 2147483652)], []), ((some (.inl (2147483647, 2147483651)), []), (([], []), 0)))
set_option maxRecDepth 100000 in
theorem ik_x23 : ai_inst (ai_T0, ai_cts [], ai_mem ai_inl, ii_x23.2.2.1, ([], []), ai_hds [(2, [((0, (3, 0)), ([(0, (.inr (fr 1), (0, 0))), (1, (.inr (fr 20), (0, 0))), (2, (.inl (2147483648, 2147483652), (0, 0))), (3, (.inl (2147483648, 2147483652), (0, 0)))], []))])]) 1000000 285 [(2, 0)] ii_x23 = true := by decide +kernel
theorem ic_x23 {l : Launch} {X : fx_X} {Y : fx_Y} {B : fx_B} (he : ai_env X B) : ai_con l X Y B ai_T0 ai_N 285 ii_x23 := ai_case he (fun _ _ _ _ => trivial) ik_x23 trivial

def ii_x24 : ai_I := (([.inr (fr 1), .inr (fr 20), .inl (2147483648, 2147483651)], []), ((some (.inl (2147483648, 2147483649)), []), (([4098, 4099], []), 2)))
set_option maxRecDepth 100000 in
theorem ik_x24 : ai_inst (ai_T0, ai_cts [(285, ii_x23)], ai_mem ai_inl, ii_x24.2.2.1, ([4098, 4099], []), ai_hds []) 1000000 274 [] ii_x24 = true := by decide +kernel
theorem ic_x24 {l : Launch} {X : fx_X} {Y : fx_Y} {B : fx_B} (he : ai_env X B) : ai_con l X Y B ai_T0 ai_N 274 ii_x24 := ai_case he (fun _ _ _ _ => trivial) ik_x24 ⟨ic_x23 he, trivial⟩

def ii_x25 : ai_I := (([.inr (fr 1), .inr (fr 6), .inl (2147483648, 2147483652)], []), ((some (.inl (2147483647, 2147483651)), []), (([], []), 0)))
set_option maxRecDepth 100000 in
theorem ik_x25 : ai_inst (ai_T0, ai_cts [], ai_mem ai_inl, ii_x25.2.2.1, ([], []), ai_hds [(2, [((0, (3, 0)), ([(0, (.inr (fr 1), (0, 0))), (1, (.inr (fr 6), (0, 0))), (2, (.inl (2147483648, 2147483652), (0, 0))), (3, (.inl (2147483648, 2147483652), (0, 0)))], []))])]) 1000000 285 [(2, 0)] ii_x25 = true := by decide +kernel
theorem ic_x25 {l : Launch} {X : fx_X} {Y : fx_Y} {B : fx_B} (he : ai_env X B) : ai_con l X Y B ai_T0 ai_N 285 ii_x25 := ai_case he (fun _ _ _ _ => trivial) ik_x25 trivial

def ii_x26 : ai_I := (([.inr (fr 1), .inr (fr 6), .inl (2147483648, 2147483651)], []), ((some (.inl (2147483648, 2147483649)), []), (([4098, 4099], []), 2)))
set_option maxRecDepth 100000 in
theorem ik_x26 : ai_inst (ai_T0, ai_cts [(285, ii_x25)], ai_mem ai_inl, ii_x26.2.2.1, ([4098, 4099], []), ai_hds []) 1000000 274 [] ii_x26 = true := by decide +kernel
theorem ic_x26 {l : Launch} {X : fx_X} {Y : fx_Y} {B : fx_B} (he : ai_env X B) : ai_con l X Y B ai_T0 ai_N 274 ii_x26 := ai_case he (fun _ _ _ _ => trivial) ik_x26 ⟨ic_x25 he, trivial⟩

def ii_x27 : ai_I := (([.inr (fr 1)], []), ((some (.inl (2147483648, 2147483649)), []), (([4098, 4099, 8194, 8196, 8197, 8198, 8199, 20491, 77835], [6, 7, 20, 21]), 6)))
set_option maxRecDepth 100000 in
theorem ik_x27 : ai_inst (ai_T0, ai_cts [(240, ii_x19), (247, ii_x21), (274, ii_x24), (274, ii_x26)], ai_mem ai_inl, ii_x27.2.2.1, ([4098, 4099, 20491, 77835], [6, 7, 20, 21]), ai_hds []) 1000000 243 [] ii_x27 = true := by decide +kernel
theorem ic_x27 {l : Launch} {X : fx_X} {Y : fx_Y} {B : fx_B} (he : ai_env X B) : ai_con l X Y B ai_T0 ai_N 243 ii_x27 := ai_case he (fun _ _ _ _ => trivial) ik_x27 ⟨ic_x19 he, ic_x21 he, ic_x24 he, ic_x26 he, trivial⟩

def ii_x28 : ai_I := (([.inr (fr 1), .inr (fr 22), .inl (2147483648, 2147483654)], []), ((some (.inl (2147483647, 2147483653)), []), (([], []), 0)))
set_option maxRecDepth 100000 in
theorem ik_x28 : ai_inst (ai_T0, ai_cts [], ai_mem ai_inl, ii_x28.2.2.1, ([], []), ai_hds [(2, [((0, (3, 0)), ([(0, (.inr (fr 1), (0, 0))), (1, (.inr (fr 22), (0, 0))), (2, (.inl (2147483648, 2147483654), (0, 0))), (3, (.inl (2147483648, 2147483654), (0, 0)))], []))])]) 1000000 285 [(2, 0)] ii_x28 = true := by decide +kernel
theorem ic_x28 {l : Launch} {X : fx_X} {Y : fx_Y} {B : fx_B} (he : ai_env X B) : ai_con l X Y B ai_T0 ai_N 285 ii_x28 := ai_case he (fun _ _ _ _ => trivial) ik_x28 trivial

def ii_x29 : ai_I := (([.inr (fr 1), .inr (fr 22), .inl (2147483648, 2147483654)], []), ((some (.inl (2147483648, 2147483649)), []), (([4098, 4099], []), 2)))
set_option maxRecDepth 100000 in
theorem ik_x29 : ai_inst (ai_T0, ai_cts [(285, ii_x28)], ai_mem ai_inl, ii_x29.2.2.1, ([4098, 4099], []), ai_hds []) 1000000 274 [] ii_x29 = true := by decide +kernel
theorem ic_x29 {l : Launch} {X : fx_X} {Y : fx_Y} {B : fx_B} (he : ai_env X B) : ai_con l X Y B ai_T0 ai_N 274 ii_x29 := ai_case he (fun _ _ _ _ => trivial) ik_x29 ⟨ic_x28 he, trivial⟩

def ii_x30 : ai_I := (([.inr (fr 1), .inr (fr 8), .inl (2147483648, 2147483654)], []), ((some (.inl (2147483647, 2147483653)), []), (([], []), 0)))
set_option maxRecDepth 100000 in
theorem ik_x30 : ai_inst (ai_T0, ai_cts [], ai_mem ai_inl, ii_x30.2.2.1, ([], []), ai_hds [(2, [((0, (3, 0)), ([(0, (.inr (fr 1), (0, 0))), (1, (.inr (fr 8), (0, 0))), (2, (.inl (2147483648, 2147483654), (0, 0))), (3, (.inl (2147483648, 2147483654), (0, 0)))], []))])]) 1000000 285 [(2, 0)] ii_x30 = true := by decide +kernel
theorem ic_x30 {l : Launch} {X : fx_X} {Y : fx_Y} {B : fx_B} (he : ai_env X B) : ai_con l X Y B ai_T0 ai_N 285 ii_x30 := ai_case he (fun _ _ _ _ => trivial) ik_x30 trivial

def ii_x31 : ai_I := (([.inr (fr 1), .inr (fr 8), .inl (2147483648, 2147483654)], []), ((some (.inl (2147483648, 2147483649)), []), (([4098, 4099], []), 2)))
set_option maxRecDepth 100000 in
theorem ik_x31 : ai_inst (ai_T0, ai_cts [(285, ii_x30)], ai_mem ai_inl, ii_x31.2.2.1, ([4098, 4099], []), ai_hds []) 1000000 274 [] ii_x31 = true := by decide +kernel
theorem ic_x31 {l : Launch} {X : fx_X} {Y : fx_Y} {B : fx_B} (he : ai_env X B) : ai_con l X Y B ai_T0 ai_N 274 ii_x31 := ai_case he (fun _ _ _ _ => trivial) ik_x31 ⟨ic_x30 he, trivial⟩

def ii_x32 : ai_I := (([.inr (fr 1), .inl (2147483648, 2147483654)], []), ((some (.inl (2147483648, 2147483649)), []), (([4098, 4099, 8194, 8196, 8197, 8198, 8199], [9, 23]), 5)))
set_option maxRecDepth 100000 in
theorem ik_x32 : ai_inst (ai_T0, ai_cts [(240, ii_x19), (285, ii_x23), (285, ii_x25)], ai_mem ai_inl, ii_x32.2.2.1, ([4098, 4099], [9, 23]), ai_hds []) 1000000 275 [] ii_x32 = true := by decide +kernel
theorem ic_x32 {l : Launch} {X : fx_X} {Y : fx_Y} {B : fx_B} (he : ai_env X B) : ai_con l X Y B ai_T0 ai_N 275 ii_x32 := ai_case he (fun _ _ _ _ => trivial) ik_x32 ⟨ic_x19 he, ic_x23 he, ic_x25 he, trivial⟩

def ii_x33 : ai_I := (([.inr (fr 1), .inl (2147483648, 2147483654)], []), ((some (.inl (2147483648, 2147483649)), []), (([4098, 4099, 8194, 8196, 8197, 8198, 8199], [11, 25]), 5)))
set_option maxRecDepth 100000 in
theorem ik_x33 : ai_inst (ai_T0, ai_cts [(240, ii_x19)], ai_mem ai_inl, ii_x33.2.2.1, ([4098, 4099], [11, 25]), ai_hds []) 1000000 276 [] ii_x33 = true := by decide +kernel
theorem ic_x33 {l : Launch} {X : fx_X} {Y : fx_Y} {B : fx_B} (he : ai_env X B) : ai_con l X Y B ai_T0 ai_N 276 ii_x33 := ai_case he (fun _ _ _ _ => trivial) ik_x33 ⟨ic_x19 he, trivial⟩

def ii_x34 : ai_I := (([.inr (fr 1), .inl (2147483648, 2147483654)], []), ((some (.inl (2147483648, 2147483649)), []), (([4098, 4099, 8194, 8196, 8197, 8198, 8199], [12, 26]), 5)))
set_option maxRecDepth 100000 in
theorem ik_x34 : ai_inst (ai_T0, ai_cts [(240, ii_x19)], ai_mem ai_inl, ii_x34.2.2.1, ([4098, 4099], [12, 26]), ai_hds [(96, [((0, (4, 0)), ([(0, (.inr (fr 1), (0, 0))), (1, (.inl (2147483648, 2147483654), (0, 0))), (2, (.inl (2147483648, 2147483651), (0, 0))), (3, (.inl (2147483648, 2147483663), (0, 0))), (4, (.inl (2147483648, 2147483654), (0, 0)))], [(4096, (.inr (fr 2), (0, 0))), (4097, (.inr (fr 19), (0, 0))), (8196, (.inl (2147483651, 2147483651), (0, 0))), (8198, (.inl (2147483648, 2147483651), (0, 0)))])), ((0, (4, 0)), ([(0, (.inr (fr 1), (0, 0))), (1, (.inl (2147483648, 2147483654), (0, 0))), (2, (.inl (2147483648, 2147483651), (0, 0))), (3, (.inl (2147483648, 2147483663), (0, 0))), (4, (.inl (2147483648, 2147483654), (0, 0)))], [(4096, (.inr (fr 2), (0, 0))), (4097, (.inr (fr 5), (0, 0))), (8196, (.inl (2147483651, 2147483651), (0, 0))), (8198, (.inl (2147483648, 2147483651), (0, 0)))]))])]) 1000000 277 [(96, 0)] ii_x34 = true := by decide +kernel
theorem ic_x34 {l : Launch} {X : fx_X} {Y : fx_Y} {B : fx_B} (he : ai_env X B) : ai_con l X Y B ai_T0 ai_N 277 ii_x34 := ai_case he (fun _ _ _ _ => trivial) ik_x34 ⟨ic_x19 he, trivial⟩

def ii_x35 : ai_I := (([.inr (fr 1)], []), ((some (.inl (2147483648, 2147483649)), []), (([4098, 4099, 8194, 8196, 8197, 8198, 8199, 20492, 77836], [8, 9, 10, 11, 12, 22, 23, 24, 25, 26]), 6)))
set_option maxRecDepth 100000 in
theorem ik_x35 : ai_inst (ai_T0, ai_cts [(240, ii_x19), (247, ii_x21), (274, ii_x29), (274, ii_x31), (275, ii_x32), (276, ii_x33), (277, ii_x34)], ai_mem ai_inl, ii_x35.2.2.1, ([4098, 4099, 20492, 77836], [8, 10, 22, 24]), ai_hds []) 1000000 244 [] ii_x35 = true := by decide +kernel
theorem ic_x35 {l : Launch} {X : fx_X} {Y : fx_Y} {B : fx_B} (he : ai_env X B) : ai_con l X Y B ai_T0 ai_N 244 ii_x35 := ai_case he (fun _ _ _ _ => trivial) ik_x35 ⟨ic_x19 he, ic_x21 he, ic_x29 he, ic_x31 he, ic_x32 he, ic_x33 he, ic_x34 he, trivial⟩

def ii_x36 : ai_I := (([.inr (fr 1), .inr (fr 13)], []), ((some (.inl (2147483648, 2147483649)), []), (([4098, 4099, 8194, 8196, 8197, 8198, 8199, 53250, 53251], []), 5)))
set_option maxRecDepth 100000 in
theorem ik_x36 : ai_inst (ai_T0, ai_cts [(240, ii_x19)], ai_mem ai_inl, ii_x36.2.2.1, ([4098, 4099, 53250, 53251], []), ai_hds []) 1000000 245 [] ii_x36 = true := by decide +kernel
theorem ic_x36 {l : Launch} {X : fx_X} {Y : fx_Y} {B : fx_B} (he : ai_env X B) : ai_con l X Y B ai_T0 ai_N 245 ii_x36 := ai_case he (fun _ _ _ _ => trivial) ik_x36 ⟨ic_x19 he, trivial⟩

def ii_x37 : ai_I := (([.inr (fr 1), .inr (fr 16)], []), ((some (.inl (2147483648, 2147483649)), []), (([4098, 4099, 8194, 8196, 8197, 8198, 8199, 65538, 65539], []), 5)))
set_option maxRecDepth 100000 in
theorem ik_x37 : ai_inst (ai_T0, ai_cts [(240, ii_x19)], ai_mem ai_inl, ii_x37.2.2.1, ([4098, 4099, 65538, 65539], []), ai_hds []) 1000000 245 [] ii_x37 = true := by decide +kernel
theorem ic_x37 {l : Launch} {X : fx_X} {Y : fx_Y} {B : fx_B} (he : ai_env X B) : ai_con l X Y B ai_T0 ai_N 245 ii_x37 := ai_case he (fun _ _ _ _ => trivial) ik_x37 ⟨ic_x19 he, trivial⟩

def ii_x38 : ai_I := (([.inr (fr 1), .inr (fr 27)], []), ((some (.inl (2147483648, 2147483649)), []), (([4098, 4099, 8194, 8196, 8197, 8198, 8199, 110594, 110595], []), 5)))
set_option maxRecDepth 100000 in
theorem ik_x38 : ai_inst (ai_T0, ai_cts [(240, ii_x19)], ai_mem ai_inl, ii_x38.2.2.1, ([4098, 4099, 110594, 110595], []), ai_hds []) 1000000 245 [] ii_x38 = true := by decide +kernel
theorem ic_x38 {l : Launch} {X : fx_X} {Y : fx_Y} {B : fx_B} (he : ai_env X B) : ai_con l X Y B ai_T0 ai_N 245 ii_x38 := ai_case he (fun _ _ _ _ => trivial) ik_x38 ⟨ic_x19 he, trivial⟩

def ii_x39 : ai_I := (([.inr (fr 1), .inr (fr 30)], []), ((some (.inl (2147483648, 2147483649)), []), (([4098, 4099, 8194, 8196, 8197, 8198, 8199, 122882, 122883], []), 5)))
set_option maxRecDepth 100000 in
theorem ik_x39 : ai_inst (ai_T0, ai_cts [(240, ii_x19)], ai_mem ai_inl, ii_x39.2.2.1, ([4098, 4099, 122882, 122883], []), ai_hds []) 1000000 245 [] ii_x39 = true := by decide +kernel
theorem ic_x39 {l : Launch} {X : fx_X} {Y : fx_Y} {B : fx_B} (he : ai_env X B) : ai_con l X Y B ai_T0 ai_N 245 ii_x39 := ai_case he (fun _ _ _ _ => trivial) ik_x39 ⟨ic_x19 he, trivial⟩

def ii_x40 : ai_I := (([.inr (fr 1), .inr (fr 13), .inl (2147483655, 2147483655)], []), ((some (.inl (2147483648, 2147483649)), []), (([4098, 4099, 8194, 8196, 8197, 8198, 8199, 53250, 53251], [14]), 5)))
set_option maxRecDepth 100000 in
theorem ik_x40 : ai_inst (ai_T0, ai_cts [(240, ii_x19)], ai_mem ai_inl, ii_x40.2.2.1, ([4098, 4099, 53250, 53251], [14]), ai_hds []) 1000000 278 [] ii_x40 = true := by decide +kernel
theorem ic_x40 {l : Launch} {X : fx_X} {Y : fx_Y} {B : fx_B} (he : ai_env X B) : ai_con l X Y B ai_T0 ai_N 278 ii_x40 := ai_case he (fun _ _ _ _ => trivial) ik_x40 ⟨ic_x19 he, trivial⟩

def ii_x41 : ai_I := (([.inr (fr 1), .inr (fr 13), .inl (2147483653, 2147483653), .inl (2147483655, 2147483655)], []), ((some (.inl (2147483648, 2147483649)), []), (([4098, 4099, 8194, 8196, 8197, 8198, 8199, 53250, 53251], [14]), 6)))
set_option maxRecDepth 100000 in
theorem ik_x41 : ai_inst (ai_T0, ai_cts [(278, ii_x40)], ai_mem ai_inl, ii_x41.2.2.1, ([], []), ai_hds []) 1000000 246 [(67, 0)] ii_x41 = true := by decide +kernel
theorem ic_x41 {l : Launch} {X : fx_X} {Y : fx_Y} {B : fx_B} (he : ai_env X B) : ai_con l X Y B ai_T0 ai_N 246 ii_x41 := ai_case he (fun _ _ _ _ => trivial) ik_x41 ⟨ic_x40 he, trivial⟩

def ii_x42 : ai_I := (([.inr (fr 1), .inr (fr 13), .inl (2147483652, 2147483652), .inl (2147483655, 2147483655)], []), ((some (.inl (2147483648, 2147483649)), []), (([4098, 4099, 8194, 8196, 8197, 8198, 8199, 53250, 53251], [14]), 7)))
set_option maxRecDepth 100000 in
theorem ik_x42 : ai_inst (ai_T0, ai_cts [(240, ii_x19), (246, ii_x41)], ai_mem ai_inl, ii_x42.2.2.1, ([53250], [14]), ai_hds [(67, [((0, (5, 0)), ([(0, (.inr (fr 1), (0, 0))), (1, (.inr (fr 13), (0, 0))), (2, (.inl (2147483652, 2147483652), (0, 0))), (3, (.inl (2147483655, 2147483655), (0, 0))), (4, (.inl (2147483679, 2147483679), (0, 0))), (5, (.inl (2147483648, 2147483679), (0, 0)))], []))])]) 1000000 246 [(67, 0)] ii_x42 = true := by decide +kernel
theorem ic_x42 {l : Launch} {X : fx_X} {Y : fx_Y} {B : fx_B} (he : ai_env X B) : ai_con l X Y B ai_T0 ai_N 246 ii_x42 := ai_case he (fun _ _ _ _ => trivial) ik_x42 ⟨ic_x19 he, ic_x41 he, trivial⟩
