def ii_m_numeral_1_4 : ai_I := (([.inr (fr 67), .inl (2147483649, 2147483649), .inl (2147483652, 2147483652)], [(274439, .inl (2147483648, 2147485248))]), ((some (.inl (2147483649, 2147483652)), [(274439, .inl (2147483648, 2147485248))]), (([274436, 274437, 274438, 274439, 274440, 274441, 274442], []), 2)))
set_option maxRecDepth 100000 in
theorem ik_m_numeral_1_4 : ai_inst (ai_T0, ai_cts [(123, ii_m_goOn)], ai_mem ai_inl, ii_m_numeral_1_4.2.2.1, ([274436, 274437], []), ai_hds []) 1000000 220 [] ii_m_numeral_1_4 = true := by decide +kernel
theorem ic_m_numeral_1_4 {l : Launch} {X : fx_X} {Y : fx_Y} {B : fx_B} (he : ai_env X B) : ai_con l X Y B ai_T0 ai_N 220 ii_m_numeral_1_4 := ai_case he (fun _ _ _ _ => trivial) ik_m_numeral_1_4 ⟨ic_m_goOn he, trivial⟩

def ii_m_must : ai_I := (([.inr (fr 67), .inl (2147483648, 2147483649)], [(274439, .inl (2147483648, 2147485248))]), ((none, [(274439, .inl (2147483648, 2147485248))]), (([274436, 274437, 274438, 274439, 274440, 274441, 274442], []), 2)))
set_option maxRecDepth 100000 in
theorem ik_m_must : ai_inst (ai_T0, ai_cts [(123, ii_m_goOn)], ai_mem ai_inl, ii_m_must.2.2.1, ([274436, 274437], []), ai_hds []) 1000000 226 [] ii_m_must = true := by decide +kernel
theorem ic_m_must {l : Launch} {X : fx_X} {Y : fx_Y} {B : fx_B} (he : ai_env X B) : ai_con l X Y B ai_T0 ai_N 226 ii_m_must := ai_case he (fun _ _ _ _ => trivial) ik_m_must ⟨ic_m_goOn he, trivial⟩

def ii_m_after_1_4 : ai_I := (([.inr (fr 67), .inr (fl 0), .inl (2147483649, 2147483649), .inl (2147483652, 2147483652)], [(274439, .inl (2147483648, 2147485248))]), ((some (.inl (2147483649, 2147483652)), [(274439, .inl (2147483648, 2147485248))]), (([274436, 274437, 274438, 274439, 274440, 274441, 274442], []), 3)))
set_option maxRecDepth 100000 in
theorem ik_m_after_1_4 : ai_inst (ai_T0, ai_cts [(220, ii_m_numeral_1_4), (226, ii_m_must)], ai_mem ai_inl, ii_m_after_1_4.2.2.1, ([], []), ai_hds []) 1000000 221 [] ii_m_after_1_4 = true := by decide +kernel
theorem ic_m_after_1_4 {l : Launch} {X : fx_X} {Y : fx_Y} {B : fx_B} (he : ai_env X B) : ai_con l X Y B ai_T0 ai_N 221 ii_m_after_1_4 := ai_case he (fun _ _ _ _ => trivial) ik_m_after_1_4 ⟨ic_m_numeral_1_4 he, ic_m_must he, trivial⟩

def ii_m_numeral_0_9 : ai_I := (([.inr (fr 67), .inl (2147483648, 2147483648), .inl (2147483657, 2147483657)], [(274439, .inl (2147483648, 2147485248))]), ((some (.inl (2147483648, 2147483657)), [(274439, .inl (2147483648, 2147485248))]), (([274436, 274437, 274438, 274439, 274440, 274441, 274442], []), 2)))
set_option maxRecDepth 100000 in
theorem ik_m_numeral_0_9 : ai_inst (ai_T0, ai_cts [(123, ii_m_goOn)], ai_mem ai_inl, ii_m_numeral_0_9.2.2.1, ([274436, 274437], []), ai_hds []) 1000000 220 [] ii_m_numeral_0_9 = true := by decide +kernel
theorem ic_m_numeral_0_9 {l : Launch} {X : fx_X} {Y : fx_Y} {B : fx_B} (he : ai_env X B) : ai_con l X Y B ai_T0 ai_N 220 ii_m_numeral_0_9 := ai_case he (fun _ _ _ _ => trivial) ik_m_numeral_0_9 ⟨ic_m_goOn he, trivial⟩

def ii_m_after_0_9 : ai_I := (([.inr (fr 67), .inr (fl 0), .inl (2147483648, 2147483648), .inl (2147483657, 2147483657)], [(274439, .inl (2147483648, 2147485248))]), ((some (.inl (2147483648, 2147483657)), [(274439, .inl (2147483648, 2147485248))]), (([274436, 274437, 274438, 274439, 274440, 274441, 274442], []), 3)))
set_option maxRecDepth 100000 in
theorem ik_m_after_0_9 : ai_inst (ai_T0, ai_cts [(220, ii_m_numeral_0_9), (226, ii_m_must)], ai_mem ai_inl, ii_m_after_0_9.2.2.1, ([], []), ai_hds []) 1000000 221 [] ii_m_after_0_9 = true := by decide +kernel
theorem ic_m_after_0_9 {l : Launch} {X : fx_X} {Y : fx_Y} {B : fx_B} (he : ai_env X B) : ai_con l X Y B ai_T0 ai_N 221 ii_m_after_0_9 := ai_case he (fun _ _ _ _ => trivial) ik_m_after_0_9 ⟨ic_m_numeral_0_9 he, ic_m_must he, trivial⟩

def ii_m_fresh : ai_I := (([.inr (fr 67), .inl (2147483647, 2147483653)], [(274439, .inl (2147483648, 2147485248))]), ((some (.inr (fl 0)), [(274439, .inl (2147483648, 2147485248))]), (([274436, 274437, 274438, 274439, 274440, 274441, 274442], []), 2)))
set_option maxRecDepth 100000 in
theorem ik_m_fresh : ai_inst (ai_T0, ai_cts [(123, ii_m_goOn)], ai_mem ai_inl, ii_m_fresh.2.2.1, ([274436, 274437], []), ai_hds []) 1000000 253 [] ii_m_fresh = true := by decide +kernel
theorem ic_m_fresh {l : Launch} {X : fx_X} {Y : fx_Y} {B : fx_B} (he : ai_env X B) : ai_con l X Y B ai_T0 ai_N 253 ii_m_fresh := ai_case he (fun _ _ _ _ => trivial) ik_m_fresh ⟨ic_m_goOn he, trivial⟩

def ii_m_here_89_0 : ai_I := (([.inr (fr 67), .inr (fr 89), .inl (2147483648, 2147483648), .inl (2147483648, 2147483652)], []), ((some (.inl (2147483647, 2147483651)), []), (([], []), 0)))
set_option maxRecDepth 100000 in
theorem ik_m_here_89_0 : ai_inst (ai_T0, ai_cts [], ai_mem ai_inl, ii_m_here_89_0.2.2.1, ([], []), ai_hds [(3, [((0, (4, 0)), ([(0, (.inr (fr 67), (0, 0))), (1, (.inr (fr 89), (0, 0))), (2, (.inl (2147483648, 2147483648), (0, 0))), (3, (.inl (2147483648, 2147483652), (0, 0))), (4, (.inl (2147483648, 2147483652), (0, 0)))], []))])]) 1000000 254 [(3, 0)] ii_m_here_89_0 = true := by decide +kernel
theorem ic_m_here_89_0 {l : Launch} {X : fx_X} {Y : fx_Y} {B : fx_B} (he : ai_env X B) : ai_con l X Y B ai_T0 ai_N 254 ii_m_here_89_0 := ai_case he (fun _ _ _ _ => trivial) ik_m_here_89_0 trivial

def ii_m_here_90_0 : ai_I := (([.inr (fr 67), .inr (fr 90), .inl (2147483648, 2147483648), .inl (2147483648, 2147483654)], []), ((some (.inl (2147483647, 2147483653)), []), (([], []), 0)))
set_option maxRecDepth 100000 in
theorem ik_m_here_90_0 : ai_inst (ai_T0, ai_cts [], ai_mem ai_inl, ii_m_here_90_0.2.2.1, ([], []), ai_hds [(3, [((0, (4, 0)), ([(0, (.inr (fr 67), (0, 0))), (1, (.inr (fr 90), (0, 0))), (2, (.inl (2147483648, 2147483648), (0, 0))), (3, (.inl (2147483648, 2147483654), (0, 0))), (4, (.inl (2147483648, 2147483654), (0, 0)))], []))])]) 1000000 254 [(3, 0)] ii_m_here_90_0 = true := by decide +kernel
theorem ic_m_here_90_0 {l : Launch} {X : fx_X} {Y : fx_Y} {B : fx_B} (he : ai_env X B) : ai_con l X Y B ai_T0 ai_N 254 ii_m_here_90_0 := ai_case he (fun _ _ _ _ => trivial) ik_m_here_90_0 trivial

def ii_m_known : ai_I := (([.inr (fr 67), .inl (2147483647, 2147483651)], [(274439, .inl (2147483648, 2147485248))]), ((some (.inl (2147483648, 2147483651)), [(274439, .inl (2147483648, 2147485248))]), (([274436, 274437, 274438, 274439, 274440, 274441, 274442], []), 2)))
set_option maxRecDepth 100000 in
theorem ik_m_known : ai_inst (ai_T0, ai_cts [(123, ii_m_goOn)], ai_mem ai_inl, ii_m_known.2.2.1, ([274436, 274437], []), ai_hds []) 1000000 255 [] ii_m_known = true := by decide +kernel
theorem ic_m_known {l : Launch} {X : fx_X} {Y : fx_Y} {B : fx_B} (he : ai_env X B) : ai_con l X Y B ai_T0 ai_N 255 ii_m_known := ai_case he (fun _ _ _ _ => trivial) ik_m_known ⟨ic_m_goOn he, trivial⟩

def ii_m_passes : ai_I := (([.inr (fr 67), .inr (fl 0)], [(274439, .inl (2147483648, 2147485248))]), ((some (.inl (2147483648, 2147483649)), [(274439, .inl (2147483648, 2147485248))]), (([274438, 274439, 274440, 274441, 274442], []), 2)))
set_option maxRecDepth 100000 in
theorem ik_m_passes : ai_inst (ai_T0, ai_cts [(123, ii_m_goOn)], ai_mem ai_inl, ii_m_passes.2.2.1, ([], []), ai_hds []) 1000000 256 [] ii_m_passes = true := by decide +kernel
theorem ic_m_passes {l : Launch} {X : fx_X} {Y : fx_Y} {B : fx_B} (he : ai_env X B) : ai_con l X Y B ai_T0 ai_N 256 ii_m_passes := ai_case he (fun _ _ _ _ => trivial) ik_m_passes ⟨ic_m_goOn he, trivial⟩

def ii_m_numeral_0 : ai_I := (([.inr (fr 67), .inl (2147483648, 2147483648), .inl (2147483647, 2147483651)], [(274439, .inl (2147483648, 2147485248))]), ((some (.inl (2147483648, 2147483651)), [(274439, .inl (2147483648, 2147485248))]), (([274436, 274437, 274438, 274439, 274440, 274441, 274442], []), 2)))
set_option maxRecDepth 100000 in
theorem ik_m_numeral_0 : ai_inst (ai_T0, ai_cts [(123, ii_m_goOn)], ai_mem ai_inl, ii_m_numeral_0.2.2.1, ([274436, 274437], []), ai_hds []) 1000000 220 [] ii_m_numeral_0 = true := by decide +kernel
theorem ic_m_numeral_0 {l : Launch} {X : fx_X} {Y : fx_Y} {B : fx_B} (he : ai_env X B) : ai_con l X Y B ai_T0 ai_N 220 ii_m_numeral_0 := ai_case he (fun _ _ _ _ => trivial) ik_m_numeral_0 ⟨ic_m_goOn he, trivial⟩

def ii_m_readSeat_r0 : ai_I := (([.inr (fr 67)], [(274439, .inl (2147483648, 2147485248)), (274470, .inl (2147483648, 2147483648)), (286721, .inl (2147483649, 2147483652))]), ((some (.inl (2147483648, 2147483663)), [(274439, .inl (2147483648, 2147485248))]), (([274436, 274437, 274438, 274439, 274440, 274441, 274442], []), 3)))
set_option maxRecDepth 100000 in
theorem ik_m_readSeat_r0 : ai_inst (ai_T0, ai_cts [(220, ii_m_numeral_0)], ai_mem ai_inl, ii_m_readSeat_r0.2.2.1, ([274436, 274437], []), ai_hds [(57, [((0, (5, 0)), ([(0, (.inr (fr 67), (0, 0))), (1, (.inl (2147483648, 2147483651), (0, 0))), (2, (.inl (2147483648, 2147485248), (0, 0))), (3, (.inl (2147483648, 2147483651), (0, 0))), (4, (.inl (2147483648, 2147483663), (0, 0))), (5, (.inl (2147483648, 2147483655), (0, 0)))], [(274439, (.inl (2147483648, 2147485248), (0, 0))), (274443, (.inr (fr 70), (0, 0))), (274444, (.inr (fr 71), (0, 0))), (274470, (.inl (2147483648, 2147483648), (0, 0))), (286721, (.inl (2147483649, 2147483652), (0, 0)))]))])]) 1000000 257 [(57, 0)] ii_m_readSeat_r0 = true := by decide +kernel
theorem ic_m_readSeat_r0 {l : Launch} {X : fx_X} {Y : fx_Y} {B : fx_B} (he : ai_env X B) : ai_con l X Y B ai_T0 ai_N 257 ii_m_readSeat_r0 := ai_case he (fun _ _ _ _ => trivial) ik_m_readSeat_r0 ⟨ic_m_numeral_0 he, trivial⟩

def ii_m_numeral_0_100 : ai_I := (([.inr (fr 67), .inl (2147483648, 2147483648), .inl (2147483748, 2147483748)], [(274439, .inl (2147483648, 2147485248))]), ((some (.inl (2147483648, 2147483748)), [(274439, .inl (2147483648, 2147485248))]), (([274436, 274437, 274438, 274439, 274440, 274441, 274442], []), 2)))
set_option maxRecDepth 100000 in
theorem ik_m_numeral_0_100 : ai_inst (ai_T0, ai_cts [(123, ii_m_goOn)], ai_mem ai_inl, ii_m_numeral_0_100.2.2.1, ([274436, 274437], []), ai_hds []) 1000000 220 [] ii_m_numeral_0_100 = true := by decide +kernel
theorem ic_m_numeral_0_100 {l : Launch} {X : fx_X} {Y : fx_Y} {B : fx_B} (he : ai_env X B) : ai_con l X Y B ai_T0 ai_N 220 ii_m_numeral_0_100 := ai_case he (fun _ _ _ _ => trivial) ik_m_numeral_0_100 ⟨ic_m_goOn he, trivial⟩

def ii_m_numeral_1_9 : ai_I := (([.inr (fr 67), .inl (2147483649, 2147483649), .inl (2147483657, 2147483657)], [(274439, .inl (2147483648, 2147485248))]), ((some (.inl (2147483649, 2147483657)), [(274439, .inl (2147483648, 2147485248))]), (([274436, 274437, 274438, 274439, 274440, 274441, 274442], []), 2)))
set_option maxRecDepth 100000 in
theorem ik_m_numeral_1_9 : ai_inst (ai_T0, ai_cts [(123, ii_m_goOn)], ai_mem ai_inl, ii_m_numeral_1_9.2.2.1, ([274436, 274437], []), ai_hds []) 1000000 220 [] ii_m_numeral_1_9 = true := by decide +kernel
theorem ic_m_numeral_1_9 {l : Launch} {X : fx_X} {Y : fx_Y} {B : fx_B} (he : ai_env X B) : ai_con l X Y B ai_T0 ai_N 220 ii_m_numeral_1_9 := ai_case he (fun _ _ _ _ => trivial) ik_m_numeral_1_9 ⟨ic_m_goOn he, trivial⟩

def ii_m_after_1_9 : ai_I := (([.inr (fr 67), .inr (fl 0), .inl (2147483649, 2147483649), .inl (2147483657, 2147483657)], [(274439, .inl (2147483648, 2147485248))]), ((some (.inl (2147483649, 2147483657)), [(274439, .inl (2147483648, 2147485248))]), (([274436, 274437, 274438, 274439, 274440, 274441, 274442], []), 3)))
set_option maxRecDepth 100000 in
theorem ik_m_after_1_9 : ai_inst (ai_T0, ai_cts [(220, ii_m_numeral_1_9), (226, ii_m_must)], ai_mem ai_inl, ii_m_after_1_9.2.2.1, ([], []), ai_hds []) 1000000 221 [] ii_m_after_1_9 = true := by decide +kernel
theorem ic_m_after_1_9 {l : Launch} {X : fx_X} {Y : fx_Y} {B : fx_B} (he : ai_env X B) : ai_con l X Y B ai_T0 ai_N 221 ii_m_after_1_9 := ai_case he (fun _ _ _ _ => trivial) ik_m_after_1_9 ⟨ic_m_numeral_1_9 he, ic_m_must he, trivial⟩

def ii_m_numeral_0_999 : ai_I := (([.inr (fr 67), .inl (2147483648, 2147483648), .inl (2147484647, 2147484647)], [(274439, .inl (2147483648, 2147485248))]), ((some (.inl (2147483648, 2147484647)), [(274439, .inl (2147483648, 2147485248))]), (([274436, 274437, 274438, 274439, 274440, 274441, 274442], []), 2)))
set_option maxRecDepth 100000 in
theorem ik_m_numeral_0_999 : ai_inst (ai_T0, ai_cts [(123, ii_m_goOn)], ai_mem ai_inl, ii_m_numeral_0_999.2.2.1, ([274436, 274437], []), ai_hds []) 1000000 220 [] ii_m_numeral_0_999 = true := by decide +kernel
theorem ic_m_numeral_0_999 {l : Launch} {X : fx_X} {Y : fx_Y} {B : fx_B} (he : ai_env X B) : ai_con l X Y B ai_T0 ai_N 220 ii_m_numeral_0_999 := ai_case he (fun _ _ _ _ => trivial) ik_m_numeral_0_999 ⟨ic_m_goOn he, trivial⟩

def ii_m_here_89_4 : ai_I := (([.inr (fr 67), .inr (fr 89), .inl (2147483652, 2147483652), .inl (2147483648, 2147483652)], []), ((some (.inl (2147483647, 2147483651)), []), (([], []), 0)))
set_option maxRecDepth 100000 in
theorem ik_m_here_89_4 : ai_inst (ai_T0, ai_cts [], ai_mem ai_inl, ii_m_here_89_4.2.2.1, ([], []), ai_hds [(3, [((0, (4, 0)), ([(0, (.inr (fr 67), (0, 0))), (1, (.inr (fr 89), (0, 0))), (2, (.inl (2147483652, 2147483652), (0, 0))), (3, (.inl (2147483648, 2147483652), (0, 0))), (4, (.inl (2147483648, 2147483652), (0, 0)))], []))])]) 1000000 254 [(3, 0)] ii_m_here_89_4 = true := by decide +kernel
theorem ic_m_here_89_4 {l : Launch} {X : fx_X} {Y : fx_Y} {B : fx_B} (he : ai_env X B) : ai_con l X Y B ai_T0 ai_N 254 ii_m_here_89_4 := ai_case he (fun _ _ _ _ => trivial) ik_m_here_89_4 trivial

def ii_m_here_90_7 : ai_I := (([.inr (fr 67), .inr (fr 90), .inl (2147483655, 2147483655), .inl (2147483648, 2147483654)], []), ((some (.inl (2147483647, 2147483653)), []), (([], []), 0)))
set_option maxRecDepth 100000 in
theorem ik_m_here_90_7 : ai_inst (ai_T0, ai_cts [], ai_mem ai_inl, ii_m_here_90_7.2.2.1, ([], []), ai_hds [(3, [((0, (4, 0)), ([(0, (.inr (fr 67), (0, 0))), (1, (.inr (fr 90), (0, 0))), (2, (.inl (2147483655, 2147483655), (0, 0))), (3, (.inl (2147483648, 2147483654), (0, 0))), (4, (.inl (2147483648, 2147483654), (0, 0)))], []))])]) 1000000 254 [(3, 0)] ii_m_here_90_7 = true := by decide +kernel
theorem ic_m_here_90_7 {l : Launch} {X : fx_X} {Y : fx_Y} {B : fx_B} (he : ai_env X B) : ai_con l X Y B ai_T0 ai_N 254 ii_m_here_90_7 := ai_case he (fun _ _ _ _ => trivial) ik_m_here_90_7 trivial

def ii_m_readSeat_r1 : ai_I := (([.inr (fr 67)], [(274439, .inl (2147483648, 2147485248)), (274470, .inl (2147483649, 2147483649)), (286721, .inl (2147483649, 2147483652))]), ((some (.inl (2147483648, 2147483663)), [(274439, .inl (2147483648, 2147485248))]), (([274436, 274437, 274438, 274439, 274440, 274441, 274442], []), 3)))
set_option maxRecDepth 100000 in
theorem ik_m_readSeat_r1 : ai_inst (ai_T0, ai_cts [(220, ii_m_numeral_0)], ai_mem ai_inl, ii_m_readSeat_r1.2.2.1, ([274436, 274437], []), ai_hds [(57, [((0, (5, 0)), ([(0, (.inr (fr 67), (0, 0))), (1, (.inl (2147483648, 2147483651), (0, 0))), (2, (.inl (2147483648, 2147485248), (0, 0))), (3, (.inl (2147483648, 2147483651), (0, 0))), (4, (.inl (2147483648, 2147483663), (0, 0))), (5, (.inl (2147483648, 2147483655), (0, 0)))], [(274439, (.inl (2147483648, 2147485248), (0, 0))), (274443, (.inr (fr 70), (0, 0))), (274444, (.inr (fr 71), (0, 0))), (274470, (.inl (2147483649, 2147483649), (0, 0))), (286721, (.inl (2147483649, 2147483652), (0, 0)))]))])]) 1000000 257 [(57, 0)] ii_m_readSeat_r1 = true := by decide +kernel
theorem ic_m_readSeat_r1 {l : Launch} {X : fx_X} {Y : fx_Y} {B : fx_B} (he : ai_env X B) : ai_con l X Y B ai_T0 ai_N 257 ii_m_readSeat_r1 := ai_case he (fun _ _ _ _ => trivial) ik_m_readSeat_r1 ⟨ic_m_numeral_0 he, trivial⟩

def ii_m_clearBank_r0_r0_00 : ai_I := (([.inr (fr 67)], [(274470, .inl (2147483648, 2147483648)), (286721, .inl (2147483649, 2147483652)), (352258, .inl (2147483648, 2147483648)), (352259, .inl (2147483648, 2147483648))]), ((none, [(274471, .inl (2147483648, 2147483648)), (286720, .inl (2147483652, 2147483652)), (286721, .inl (2147483649, 2147483652)), (294912, .inl (2147483648, 2147483648)), (299008, .inl (2147483648, 2147483648)), (303104, .inl (2147483648, 2147483648)), (307200, .inl (2147483648, 2147483648)), (352256, .inl (2147483648, 2147483648)), (352257, .inl (2147483648, 2147483648)), (352258, .inl (2147483648, 2147483648)), (352259, .inl (2147483648, 2147483648)), (356352, .inl (2147483648, 2147483648)), (360448, .inl (2147483648, 2147483648))]), (([274471], [70, 71, 72, 73, 74, 75, 76, 77, 78, 86, 87, 88]), 0)))
set_option maxRecDepth 100000 in
theorem ik_m_clearBank_r0_r0_00 : ai_inst (ai_T0, ai_cts [], ai_mem ai_inl, ii_m_clearBank_r0_r0_00.2.2.1, ([274471], [70, 71, 72, 73, 74, 75, 76, 77, 78, 86, 87, 88]), ai_hds []) 1000000 24 [] ii_m_clearBank_r0_r0_00 = true := by decide +kernel
theorem ic_m_clearBank_r0_r0_00 {l : Launch} {X : fx_X} {Y : fx_Y} {B : fx_B} (he : ai_env X B) : ai_con l X Y B ai_T0 ai_N 24 ii_m_clearBank_r0_r0_00 := ai_case he (fun _ _ _ _ => trivial) ik_m_clearBank_r0_r0_00 trivial

def ii_m_clearBank_r0_r0_01 : ai_I := (([.inr (fr 67)], [(274470, .inl (2147483648, 2147483648)), (286721, .inl (2147483649, 2147483652)), (352258, .inl (2147483648, 2147483648)), (352259, .inl (2147483649, 2147483649))]), ((none, [(274471, .inl (2147483648, 2147483648)), (286720, .inl (2147483652, 2147483652)), (286721, .inl (2147483649, 2147483652)), (294912, .inl (2147483648, 2147483648)), (299008, .inl (2147483648, 2147483648)), (303104, .inl (2147483648, 2147483648)), (307200, .inl (2147483648, 2147483648)), (352256, .inl (2147483648, 2147483648)), (352257, .inl (2147483648, 2147483648)), (352258, .inl (2147483648, 2147483648)), (352259, .inl (2147483649, 2147483649)), (356352, .inl (2147483648, 2147483648)), (360448, .inl (2147483648, 2147483648))]), (([274471], [70, 71, 72, 73, 74, 75, 76, 77, 78, 86, 87, 88]), 0)))
set_option maxRecDepth 100000 in
theorem ik_m_clearBank_r0_r0_01 : ai_inst (ai_T0, ai_cts [], ai_mem ai_inl, ii_m_clearBank_r0_r0_01.2.2.1, ([274471], [70, 71, 72, 73, 74, 75, 76, 77, 78, 86, 87, 88]), ai_hds []) 1000000 24 [] ii_m_clearBank_r0_r0_01 = true := by decide +kernel
theorem ic_m_clearBank_r0_r0_01 {l : Launch} {X : fx_X} {Y : fx_Y} {B : fx_B} (he : ai_env X B) : ai_con l X Y B ai_T0 ai_N 24 ii_m_clearBank_r0_r0_01 := ai_case he (fun _ _ _ _ => trivial) ik_m_clearBank_r0_r0_01 trivial

def ii_m_clearBank_r0_r0_10 : ai_I := (([.inr (fr 67)], [(274470, .inl (2147483648, 2147483648)), (286721, .inl (2147483649, 2147483652)), (352258, .inl (2147483649, 2147483649)), (352259, .inl (2147483648, 2147483648))]), ((none, [(274471, .inl (2147483648, 2147483648)), (286720, .inl (2147483652, 2147483652)), (286721, .inl (2147483649, 2147483652)), (294912, .inl (2147483648, 2147483648)), (299008, .inl (2147483648, 2147483648)), (303104, .inl (2147483648, 2147483648)), (307200, .inl (2147483648, 2147483648)), (352256, .inl (2147483648, 2147483648)), (352257, .inl (2147483648, 2147483648)), (352258, .inl (2147483649, 2147483649)), (352259, .inl (2147483648, 2147483648)), (356352, .inl (2147483648, 2147483648)), (360448, .inl (2147483648, 2147483648))]), (([274471], [70, 71, 72, 73, 74, 75, 76, 77, 78, 86, 87, 88]), 0)))
set_option maxRecDepth 100000 in
theorem ik_m_clearBank_r0_r0_10 : ai_inst (ai_T0, ai_cts [], ai_mem ai_inl, ii_m_clearBank_r0_r0_10.2.2.1, ([274471], [70, 71, 72, 73, 74, 75, 76, 77, 78, 86, 87, 88]), ai_hds []) 1000000 24 [] ii_m_clearBank_r0_r0_10 = true := by decide +kernel
theorem ic_m_clearBank_r0_r0_10 {l : Launch} {X : fx_X} {Y : fx_Y} {B : fx_B} (he : ai_env X B) : ai_con l X Y B ai_T0 ai_N 24 ii_m_clearBank_r0_r0_10 := ai_case he (fun _ _ _ _ => trivial) ik_m_clearBank_r0_r0_10 trivial

def ii_m_clearBank_r0_r0_11 : ai_I := (([.inr (fr 67)], [(274470, .inl (2147483648, 2147483648)), (286721, .inl (2147483649, 2147483652)), (352258, .inl (2147483649, 2147483649)), (352259, .inl (2147483649, 2147483649))]), ((none, [(274471, .inl (2147483648, 2147483648)), (286720, .inl (2147483652, 2147483652)), (286721, .inl (2147483649, 2147483652)), (294912, .inl (2147483648, 2147483648)), (299008, .inl (2147483648, 2147483648)), (303104, .inl (2147483648, 2147483648)), (307200, .inl (2147483648, 2147483648)), (352256, .inl (2147483648, 2147483648)), (352257, .inl (2147483648, 2147483648)), (352258, .inl (2147483649, 2147483649)), (352259, .inl (2147483649, 2147483649)), (356352, .inl (2147483648, 2147483648)), (360448, .inl (2147483648, 2147483648))]), (([274471], [70, 71, 72, 73, 74, 75, 76, 77, 78, 86, 87, 88]), 0)))
set_option maxRecDepth 100000 in
theorem ik_m_clearBank_r0_r0_11 : ai_inst (ai_T0, ai_cts [], ai_mem ai_inl, ii_m_clearBank_r0_r0_11.2.2.1, ([274471], [70, 71, 72, 73, 74, 75, 76, 77, 78, 86, 87, 88]), ai_hds []) 1000000 24 [] ii_m_clearBank_r0_r0_11 = true := by decide +kernel
theorem ic_m_clearBank_r0_r0_11 {l : Launch} {X : fx_X} {Y : fx_Y} {B : fx_B} (he : ai_env X B) : ai_con l X Y B ai_T0 ai_N 24 ii_m_clearBank_r0_r0_11 := ai_case he (fun _ _ _ _ => trivial) ik_m_clearBank_r0_r0_11 trivial

def ii_m_goOn_g : ai_I := (([.inr (fr 67)], [(274439, .inl (2147483648, 2147485248))]), ((none, [(274439, .inl (2147483648, 2147485248))]), (([274438, 274439, 274440, 274441, 274442], []), 1)))
set_option maxRecDepth 100000 in
theorem ik_m_goOn_g : ai_inst (ai_T0, ai_cts [(215, ii_m_isKept), (217, ii_m_isSign)], ai_mem ai_inl, ii_m_goOn_g.2.2.1, ([274438, 274439, 274440, 274441, 274442], []), ai_hds [(8, [((1, (274438, 0)), ([(0, (.inr (fr 67), (0, 0)))], [(274438, (.inl (2147483648, 2147485248), (0, 0))), (274439, (.inl (2147483648, 2147485248), (0, 0)))]))]), (119, [((1, (274439, 0)), ([(0, (.inr (fr 67), (0, 0))), (1, (.inl (2147483745, 2147483770), (0, 0)))], [(274433, (.inr (fr 69), (0, 0))), (274435, (.inl (2147483649, 2147485248), (0, 0))), (274438, (.inl (2147483648, 2147485247), (0, 0))), (274439, (.inl (2147483649, 2147485248), (0, 0)))]))]), (156, [((0, (2, 0)), ([(0, (.inr (fr 67), (0, 0))), (1, (.inl (2147483745, 2147483770), (0, 0))), (2, (.inl (2147483648, 2147485248), (0, 0)))], [(274433, (.inr (fr 69), (0, 0))), (274435, (.inl (2147483649, 2147485248), (0, 0))), (274438, (.inl (2147483648, 2147485247), (0, 0))), (274439, (.inl (2147483649, 2147485248), (0, 0)))]))]), (259, [((1, (274439, 0)), ([(0, (.inr (fr 67), (0, 0))), (1, (.inl (2147483696, 2147483705), (0, 0)))], [(274433, (.inr (fr 69), (0, 0))), (274435, (.inl (2147483649, 2147485248), (0, 0))), (274438, (.inl (2147483648, 2147485247), (0, 0))), (274439, (.inl (2147483648, 2147485248), (0, 0)))]))])]) 1000000 123 [(8, 0), (119, 0), (156, 0), (259, 0)] ii_m_goOn_g = true := by decide +kernel
theorem ic_m_goOn_g {l : Launch} {X : fx_X} {Y : fx_Y} {B : fx_B} (he : ai_env X B) : ai_con l X Y B ai_T0 ai_N 123 ii_m_goOn_g := ai_case he (fun _ _ _ _ => trivial) ik_m_goOn_g ⟨ic_m_isKept he, ic_m_isSign he, trivial⟩
