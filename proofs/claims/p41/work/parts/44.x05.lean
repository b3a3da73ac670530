def ii_x188 : ai_I := (([.inr (fr 1), .inr (fr 27), .inl (2147483653, 2147483653)], []), ((some (.inl (2147483648, 2147483649)), []), (([4098, 4099, 8194, 8196, 8197, 8198, 8199, 110594, 110595], [28]), 17)))
set_option maxRecDepth 100000 in
theorem ik_x188 : ai_inst (ai_T0, ai_cts [(240, ii_x19), (246, ii_x181)], ai_mem ai_inl, ii_x188.2.2.1, ([110594], [28]), ai_hds []) 1000000 279 [] ii_x188 = true := by decide +kernel
theorem ic_x188 {l : Launch} {X : fx_X} {Y : fx_Y} {B : fx_B} (he : ai_env X B) : ai_con l X Y B ai_T0 ai_N 279 ii_x188 := ai_case he (fun _ _ _ _ => trivial) ik_x188 ⟨ic_x19 he, ic_x181 he, trivial⟩

def ii_x189 : ai_I := (([.inr (fr 1), .inr (fr 27), .inl (2147483650, 2147483650), .inl (2147483653, 2147483653)], []), ((some (.inl (2147483648, 2147483649)), []), (([4098, 4099, 8194, 8196, 8197, 8198, 8199, 110594, 110595], [28]), 23)))
set_option maxRecDepth 100000 in
theorem ik_x189 : ai_inst (ai_T0, ai_cts [(240, ii_x19), (246, ii_x187), (279, ii_x188)], ai_mem ai_inl, ii_x189.2.2.1, ([110594], [28]), ai_hds [(67, [((0, (5, 0)), ([(0, (.inr (fr 1), (0, 0))), (1, (.inr (fr 27), (0, 0))), (2, (.inl (2147483650, 2147483650), (0, 0))), (3, (.inl (2147483653, 2147483653), (0, 0))), (4, (.inl (2147483649, 2147483649), (0, 0))), (5, (.inl (2147483648, 2147483649), (0, 0)))], [(4096, (.inr (fr 2), (0, 0)))]))])]) 1000000 246 [(67, 0)] ii_x189 = true := by decide +kernel
theorem ic_x189 {l : Launch} {X : fx_X} {Y : fx_Y} {B : fx_B} (he : ai_env X B) : ai_con l X Y B ai_T0 ai_N 246 ii_x189 := ai_case he (fun _ _ _ _ => trivial) ik_x189 ⟨ic_x19 he, ic_x187 he, ic_x188 he, trivial⟩

def ii_x190 : ai_I := (([.inr (fr 1), .inr (fr 27), .inl (2147483649, 2147483649), .inl (2147483653, 2147483653)], []), ((some (.inl (2147483648, 2147483649)), []), (([4098, 4099, 8194, 8196, 8197, 8198, 8199, 110594, 110595], [28]), 24)))
set_option maxRecDepth 100000 in
theorem ik_x190 : ai_inst (ai_T0, ai_cts [(240, ii_x19), (246, ii_x189)], ai_mem ai_inl, ii_x190.2.2.1, ([110594], [28]), ai_hds [(67, [((0, (5, 0)), ([(0, (.inr (fr 1), (0, 0))), (1, (.inr (fr 27), (0, 0))), (2, (.inl (2147483649, 2147483649), (0, 0))), (3, (.inl (2147483653, 2147483653), (0, 0))), (4, (.inl (2147483679, 2147483679), (0, 0))), (5, (.inl (2147483648, 2147483679), (0, 0)))], []))])]) 1000000 246 [(67, 0)] ii_x190 = true := by decide +kernel
theorem ic_x190 {l : Launch} {X : fx_X} {Y : fx_Y} {B : fx_B} (he : ai_env X B) : ai_con l X Y B ai_T0 ai_N 246 ii_x190 := ai_case he (fun _ _ _ _ => trivial) ik_x190 ⟨ic_x19 he, ic_x189 he, trivial⟩

def ii_x191 : ai_I := (([.inr (fr 1), .inr (fr 27), .inl (2147483648, 2147483648), .inl (2147483653, 2147483653)], []), ((some (.inl (2147483648, 2147483649)), []), (([4098, 4099, 8194, 8196, 8197, 8198, 8199, 110594, 110595], [28]), 25)))
set_option maxRecDepth 100000 in
theorem ik_x191 : ai_inst (ai_T0, ai_cts [(240, ii_x19), (246, ii_x190)], ai_mem ai_inl, ii_x191.2.2.1, ([110594], [28]), ai_hds [(67, [((0, (5, 0)), ([(0, (.inr (fr 1), (0, 0))), (1, (.inr (fr 27), (0, 0))), (2, (.inl (2147483648, 2147483648), (0, 0))), (3, (.inl (2147483653, 2147483653), (0, 0))), (4, (.inl (2147483679, 2147483679), (0, 0))), (5, (.inl (2147483648, 2147483679), (0, 0)))], []))])]) 1000000 246 [(67, 0)] ii_x191 = true := by decide +kernel
theorem ic_x191 {l : Launch} {X : fx_X} {Y : fx_Y} {B : fx_B} (he : ai_env X B) : ai_con l X Y B ai_T0 ai_N 246 ii_x191 := ai_case he (fun _ _ _ _ => trivial) ik_x191 ⟨ic_x19 he, ic_x190 he, trivial⟩

def ii_x192 : ai_I := (([.inr (fr 1), .inr (fr 27), .inl (2147483652, 2147483652)], []), ((some (.inl (2147483648, 2147483649)), []), (([4098, 4099, 8194, 8196, 8197, 8198, 8199, 110594, 110595], [28]), 26)))
set_option maxRecDepth 100000 in
theorem ik_x192 : ai_inst (ai_T0, ai_cts [(240, ii_x19), (246, ii_x191), (247, ii_x21)], ai_mem ai_inl, ii_x192.2.2.1, ([4098, 4099, 110594, 110595], [28]), ai_hds []) 1000000 278 [] ii_x192 = true := by decide +kernel
theorem ic_x192 {l : Launch} {X : fx_X} {Y : fx_Y} {B : fx_B} (he : ai_env X B) : ai_con l X Y B ai_T0 ai_N 278 ii_x192 := ai_case he (fun _ _ _ _ => trivial) ik_x192 ⟨ic_x19 he, ic_x191 he, ic_x21 he, trivial⟩

def ii_x193 : ai_I := (([.inr (fr 1), .inr (fr 27), .inl (2147483653, 2147483653), .inl (2147483652, 2147483652)], []), ((some (.inl (2147483648, 2147483649)), []), (([4098, 4099, 8194, 8196, 8197, 8198, 8199, 110594, 110595], [28]), 27)))
set_option maxRecDepth 100000 in
theorem ik_x193 : ai_inst (ai_T0, ai_cts [(278, ii_x192)], ai_mem ai_inl, ii_x193.2.2.1, ([], []), ai_hds []) 1000000 246 [(67, 0)] ii_x193 = true := by decide +kernel
theorem ic_x193 {l : Launch} {X : fx_X} {Y : fx_Y} {B : fx_B} (he : ai_env X B) : ai_con l X Y B ai_T0 ai_N 246 ii_x193 := ai_case he (fun _ _ _ _ => trivial) ik_x193 ⟨ic_x192 he, trivial⟩

def ii_x194 : ai_I := (([.inr (fr 1), .inr (fr 27), .inl (2147483652, 2147483652), .inl (2147483652, 2147483652)], []), ((some (.inl (2147483648, 2147483649)), []), (([4098, 4099, 8194, 8196, 8197, 8198, 8199, 110594, 110595], [28]), 28)))
set_option maxRecDepth 100000 in
theorem ik_x194 : ai_inst (ai_T0, ai_cts [(240, ii_x19), (246, ii_x193)], ai_mem ai_inl, ii_x194.2.2.1, ([110594], [28]), ai_hds [(67, [((0, (5, 0)), ([(0, (.inr (fr 1), (0, 0))), (1, (.inr (fr 27), (0, 0))), (2, (.inl (2147483652, 2147483652), (0, 0))), (3, (.inl (2147483652, 2147483652), (0, 0))), (4, (.inl (2147483679, 2147483679), (0, 0))), (5, (.inl (2147483648, 2147483679), (0, 0)))], []))])]) 1000000 246 [(67, 0)] ii_x194 = true := by decide +kernel
theorem ic_x194 {l : Launch} {X : fx_X} {Y : fx_Y} {B : fx_B} (he : ai_env X B) : ai_con l X Y B ai_T0 ai_N 246 ii_x194 := ai_case he (fun _ _ _ _ => trivial) ik_x194 ⟨ic_x19 he, ic_x193 he, trivial⟩

def ii_x195 : ai_I := (([.inr (fr 1), .inr (fr 27), .inl (2147483651, 2147483651), .inl (2147483652, 2147483652)], []), ((some (.inl (2147483648, 2147483649)), []), (([4098, 4099, 8194, 8196, 8197, 8198, 8199, 110594, 110595], [28]), 29)))
set_option maxRecDepth 100000 in
theorem ik_x195 : ai_inst (ai_T0, ai_cts [(240, ii_x19), (246, ii_x194)], ai_mem ai_inl, ii_x195.2.2.1, ([110594], [28]), ai_hds [(67, [((0, (5, 0)), ([(0, (.inr (fr 1), (0, 0))), (1, (.inr (fr 27), (0, 0))), (2, (.inl (2147483651, 2147483651), (0, 0))), (3, (.inl (2147483652, 2147483652), (0, 0))), (4, (.inl (2147483679, 2147483679), (0, 0))), (5, (.inl (2147483648, 2147483679), (0, 0)))], []))])]) 1000000 246 [(67, 0)] ii_x195 = true := by decide +kernel
theorem ic_x195 {l : Launch} {X : fx_X} {Y : fx_Y} {B : fx_B} (he : ai_env X B) : ai_con l X Y B ai_T0 ai_N 246 ii_x195 := ai_case he (fun _ _ _ _ => trivial) ik_x195 ⟨ic_x19 he, ic_x194 he, trivial⟩

def ii_x196 : ai_I := (([.inr (fr 1), .inr (fr 27), .inl (2147483652, 2147483652)], []), ((some (.inl (2147483648, 2147483649)), []), (([4098, 4099, 8194, 8196, 8197, 8198, 8199, 110594, 110595], [28]), 24)))
set_option maxRecDepth 100000 in
theorem ik_x196 : ai_inst (ai_T0, ai_cts [(240, ii_x19), (246, ii_x189)], ai_mem ai_inl, ii_x196.2.2.1, ([110594], [28]), ai_hds []) 1000000 279 [] ii_x196 = true := by decide +kernel
theorem ic_x196 {l : Launch} {X : fx_X} {Y : fx_Y} {B : fx_B} (he : ai_env X B) : ai_con l X Y B ai_T0 ai_N 279 ii_x196 := ai_case he (fun _ _ _ _ => trivial) ik_x196 ⟨ic_x19 he, ic_x189 he, trivial⟩

def ii_x197 : ai_I := (([.inr (fr 1), .inr (fr 27), .inl (2147483650, 2147483650), .inl (2147483652, 2147483652)], []), ((some (.inl (2147483648, 2147483649)), []), (([4098, 4099, 8194, 8196, 8197, 8198, 8199, 110594, 110595], [28]), 30)))
set_option maxRecDepth 100000 in
theorem ik_x197 : ai_inst (ai_T0, ai_cts [(240, ii_x19), (246, ii_x195), (279, ii_x196)], ai_mem ai_inl, ii_x197.2.2.1, ([110594], [28]), ai_hds [(67, [((0, (5, 0)), ([(0, (.inr (fr 1), (0, 0))), (1, (.inr (fr 27), (0, 0))), (2, (.inl (2147483650, 2147483650), (0, 0))), (3, (.inl (2147483652, 2147483652), (0, 0))), (4, (.inl (2147483649, 2147483649), (0, 0))), (5, (.inl (2147483648, 2147483649), (0, 0)))], [(4096, (.inr (fr 2), (0, 0)))]))])]) 1000000 246 [(67, 0)] ii_x197 = true := by decide +kernel
theorem ic_x197 {l : Launch} {X : fx_X} {Y : fx_Y} {B : fx_B} (he : ai_env X B) : ai_con l X Y B ai_T0 ai_N 246 ii_x197 := ai_case he (fun _ _ _ _ => trivial) ik_x197 ⟨ic_x19 he, ic_x195 he, ic_x196 he, trivial⟩

def ii_x198 : ai_I := (([.inr (fr 1), .inr (fr 27), .inl (2147483649, 2147483649), .inl (2147483652, 2147483652)], []), ((some (.inl (2147483648, 2147483649)), []), (([4098, 4099, 8194, 8196, 8197, 8198, 8199, 110594, 110595], [28]), 31)))
set_option maxRecDepth 100000 in
theorem ik_x198 : ai_inst (ai_T0, ai_cts [(240, ii_x19), (246, ii_x197)], ai_mem ai_inl, ii_x198.2.2.1, ([110594], [28]), ai_hds [(67, [((0, (5, 0)), ([(0, (.inr (fr 1), (0, 0))), (1, (.inr (fr 27), (0, 0))), (2, (.inl (2147483649, 2147483649), (0, 0))), (3, (.inl (2147483652, 2147483652), (0, 0))), (4, (.inl (2147483679, 2147483679), (0, 0))), (5, (.inl (2147483648, 2147483679), (0, 0)))], []))])]) 1000000 246 [(67, 0)] ii_x198 = true := by decide +kernel
theorem ic_x198 {l : Launch} {X : fx_X} {Y : fx_Y} {B : fx_B} (he : ai_env X B) : ai_con l X Y B ai_T0 ai_N 246 ii_x198 := ai_case he (fun _ _ _ _ => trivial) ik_x198 ⟨ic_x19 he, ic_x197 he, trivial⟩

def ii_x199 : ai_I := (([.inr (fr 1), .inr (fr 27), .inl (2147483648, 2147483648), .inl (2147483652, 2147483652)], []), ((some (.inl (2147483648, 2147483649)), []), (([4098, 4099, 8194, 8196, 8197, 8198, 8199, 110594, 110595], [28]), 32)))
set_option maxRecDepth 100000 in
theorem ik_x199 : ai_inst (ai_T0, ai_cts [(240, ii_x19), (246, ii_x198)], ai_mem ai_inl, ii_x199.2.2.1, ([110594], [28]), ai_hds [(67, [((0, (5, 0)), ([(0, (.inr (fr 1), (0, 0))), (1, (.inr (fr 27), (0, 0))), (2, (.inl (2147483648, 2147483648), (0, 0))), (3, (.inl (2147483652, 2147483652), (0, 0))), (4, (.inl (2147483679, 2147483679), (0, 0))), (5, (.inl (2147483648, 2147483679), (0, 0)))], []))])]) 1000000 246 [(67, 0)] ii_x199 = true := by decide +kernel
theorem ic_x199 {l : Launch} {X : fx_X} {Y : fx_Y} {B : fx_B} (he : ai_env X B) : ai_con l X Y B ai_T0 ai_N 246 ii_x199 := ai_case he (fun _ _ _ _ => trivial) ik_x199 ⟨ic_x19 he, ic_x198 he, trivial⟩

def ii_x200 : ai_I := (([.inr (fr 1), .inr (fr 27), .inl (2147483651, 2147483651)], []), ((some (.inl (2147483648, 2147483649)), []), (([4098, 4099, 8194, 8196, 8197, 8198, 8199, 110594, 110595], [28]), 33)))
set_option maxRecDepth 100000 in
theorem ik_x200 : ai_inst (ai_T0, ai_cts [(240, ii_x19), (246, ii_x199), (247, ii_x21)], ai_mem ai_inl, ii_x200.2.2.1, ([4098, 4099, 110594, 110595], [28]), ai_hds []) 1000000 278 [] ii_x200 = true := by decide +kernel
theorem ic_x200 {l : Launch} {X : fx_X} {Y : fx_Y} {B : fx_B} (he : ai_env X B) : ai_con l X Y B ai_T0 ai_N 278 ii_x200 := ai_case he (fun _ _ _ _ => trivial) ik_x200 ⟨ic_x19 he, ic_x199 he, ic_x21 he, trivial⟩

def ii_x201 : ai_I := (([.inr (fr 1), .inr (fr 27), .inl (2147483653, 2147483653), .inl (2147483651, 2147483651)], []), ((some (.inl (2147483648, 2147483649)), []), (([4098, 4099, 8194, 8196, 8197, 8198, 8199, 110594, 110595], [28]), 34)))
set_option maxRecDepth 100000 in
theorem ik_x201 : ai_inst (ai_T0, ai_cts [(278, ii_x200)], ai_mem ai_inl, ii_x201.2.2.1, ([], []), ai_hds []) 1000000 246 [(67, 0)] ii_x201 = true := by decide +kernel
theorem ic_x201 {l : Launch} {X : fx_X} {Y : fx_Y} {B : fx_B} (he : ai_env X B) : ai_con l X Y B ai_T0 ai_N 246 ii_x201 := ai_case he (fun _ _ _ _ => trivial) ik_x201 ⟨ic_x200 he, trivial⟩

def ii_x202 : ai_I := (([.inr (fr 1), .inr (fr 27), .inl (2147483652, 2147483652), .inl (2147483651, 2147483651)], []), ((some (.inl (2147483648, 2147483649)), []), (([4098, 4099, 8194, 8196, 8197, 8198, 8199, 110594, 110595], [28]), 35)))
set_option maxRecDepth 100000 in
theorem ik_x202 : ai_inst (ai_T0, ai_cts [(240, ii_x19), (246, ii_x201)], ai_mem ai_inl, ii_x202.2.2.1, ([110594], [28]), ai_hds [(67, [((0, (5, 0)), ([(0, (.inr (fr 1), (0, 0))), (1, (.inr (fr 27), (0, 0))), (2, (.inl (2147483652, 2147483652), (0, 0))), (3, (.inl (2147483651, 2147483651), (0, 0))), (4, (.inl (2147483679, 2147483679), (0, 0))), (5, (.inl (2147483648, 2147483679), (0, 0)))], []))])]) 1000000 246 [(67, 0)] ii_x202 = true := by decide +kernel
theorem ic_x202 {l : Launch} {X : fx_X} {Y : fx_Y} {B : fx_B} (he : ai_env X B) : ai_con l X Y B ai_T0 ai_N 246 ii_x202 := ai_case he (fun _ _ _ _ => trivial) ik_x202 ⟨ic_x19 he, ic_x201 he, trivial⟩

def ii_x203 : ai_I := (([.inr (fr 1), .inr (fr 27), .inl (2147483651, 2147483651), .inl (2147483651, 2147483651)], []), ((some (.inl (2147483648, 2147483649)), []), (([4098, 4099, 8194, 8196, 8197, 8198, 8199, 110594, 110595], [28]), 36)))
set_option maxRecDepth 100000 in
theorem ik_x203 : ai_inst (ai_T0, ai_cts [(240, ii_x19), (246, ii_x202)], ai_mem ai_inl, ii_x203.2.2.1, ([110594], [28]), ai_hds [(67, [((0, (5, 0)), ([(0, (.inr (fr 1), (0, 0))), (1, (.inr (fr 27), (0, 0))), (2, (.inl (2147483651, 2147483651), (0, 0))), (3, (.inl (2147483651, 2147483651), (0, 0))), (4, (.inl (2147483679, 2147483679), (0, 0))), (5, (.inl (2147483648, 2147483679), (0, 0)))], []))])]) 1000000 246 [(67, 0)] ii_x203 = true := by decide +kernel
theorem ic_x203 {l : Launch} {X : fx_X} {Y : fx_Y} {B : fx_B} (he : ai_env X B) : ai_con l X Y B ai_T0 ai_N 246 ii_x203 := ai_case he (fun _ _ _ _ => trivial) ik_x203 ⟨ic_x19 he, ic_x202 he, trivial⟩

def ii_x204 : ai_I := (([.inr (fr 1), .inr (fr 27), .inl (2147483651, 2147483651)], []), ((some (.inl (2147483648, 2147483649)), []), (([4098, 4099, 8194, 8196, 8197, 8198, 8199, 110594, 110595], [28]), 31)))
set_option maxRecDepth 100000 in
theorem ik_x204 : ai_inst (ai_T0, ai_cts [(240, ii_x19), (246, ii_x197)], ai_mem ai_inl, ii_x204.2.2.1, ([110594], [28]), ai_hds []) 1000000 279 [] ii_x204 = true := by decide +kernel
theorem ic_x204 {l : Launch} {X : fx_X} {Y : fx_Y} {B : fx_B} (he : ai_env X B) : ai_con l X Y B ai_T0 ai_N 279 ii_x204 := ai_case he (fun _ _ _ _ => trivial) ik_x204 ⟨ic_x19 he, ic_x197 he, trivial⟩

def ii_x205 : ai_I := (([.inr (fr 1), .inr (fr 27), .inl (2147483650, 2147483650), .inl (2147483651, 2147483651)], []), ((some (.inl (2147483648, 2147483649)), []), (([4098, 4099, 8194, 8196, 8197, 8198, 8199, 110594, 110595], [28]), 37)))
set_option maxRecDepth 100000 in
theorem ik_x205 : ai_inst (ai_T0, ai_cts [(240, ii_x19), (246, ii_x203), (279, ii_x204)], ai_mem ai_inl, ii_x205.2.2.1, ([110594], [28]), ai_hds [(67, [((0, (5, 0)), ([(0, (.inr (fr 1), (0, 0))), (1, (.inr (fr 27), (0, 0))), (2, (.inl (2147483650, 2147483650), (0, 0))), (3, (.inl (2147483651, 2147483651), (0, 0))), (4, (.inl (2147483649, 2147483649), (0, 0))), (5, (.inl (2147483648, 2147483649), (0, 0)))], [(4096, (.inr (fr 2), (0, 0)))]))])]) 1000000 246 [(67, 0)] ii_x205 = true := by decide +kernel
theorem ic_x205 {l : Launch} {X : fx_X} {Y : fx_Y} {B : fx_B} (he : ai_env X B) : ai_con l X Y B ai_T0 ai_N 246 ii_x205 := ai_case he (fun _ _ _ _ => trivial) ik_x205 ⟨ic_x19 he, ic_x203 he, ic_x204 he, trivial⟩

def ii_x206 : ai_I := (([.inr (fr 1), .inr (fr 27), .inl (2147483649, 2147483649), .inl (2147483651, 2147483651)], []), ((some (.inl (2147483648, 2147483649)), []), (([4098, 4099, 8194, 8196, 8197, 8198, 8199, 110594, 110595], [28]), 38)))
set_option maxRecDepth 100000 in
theorem ik_x206 : ai_inst (ai_T0, ai_cts [(240, ii_x19), (246, ii_x205)], ai_mem ai_inl, ii_x206.2.2.1, ([110594], [28]), ai_hds [(67, [((0, (5, 0)), ([(0, (.inr (fr 1), (0, 0))), (1, (.inr (fr 27), (0, 0))), (2, (.inl (2147483649, 2147483649), (0, 0))), (3, (.inl (2147483651, 2147483651), (0, 0))), (4, (.inl (2147483679, 2147483679), (0, 0))), (5, (.inl (2147483648, 2147483679), (0, 0)))], []))])]) 1000000 246 [(67, 0)] ii_x206 = true := by decide +kernel
theorem ic_x206 {l : Launch} {X : fx_X} {Y : fx_Y} {B : fx_B} (he : ai_env X B) : ai_con l X Y B ai_T0 ai_N 246 ii_x206 := ai_case he (fun _ _ _ _ => trivial) ik_x206 ⟨ic_x19 he, ic_x205 he, trivial⟩

def ii_x207 : ai_I := (([.inr (fr 1), .inr (fr 27), .inl (2147483648, 2147483648), .inl (2147483651, 2147483651)], []), ((some (.inl (2147483648, 2147483649)), []), (([4098, 4099, 8194, 8196, 8197, 8198, 8199, 110594, 110595], [28]), 39)))
set_option maxRecDepth 100000 in
theorem ik_x207 : ai_inst (ai_T0, ai_cts [(240, ii_x19), (246, ii_x206)], ai_mem ai_inl, ii_x207.2.2.1, ([110594], [28]), ai_hds [(67, [((0, (5, 0)), ([(0, (.inr (fr 1), (0, 0))), (1, (.inr (fr 27), (0, 0))), (2, (.inl (2147483648, 2147483648), (0, 0))), (3, (.inl (2147483651, 2147483651), (0, 0))), (4, (.inl (2147483679, 2147483679), (0, 0))), (5, (.inl (2147483648, 2147483679), (0, 0)))], []))])]) 1000000 246 [(67, 0)] ii_x207 = true := by decide +kernel
theorem ic_x207 {l : Launch} {X : fx_X} {Y : fx_Y} {B : fx_B} (he : ai_env X B) : ai_con l X Y B ai_T0 ai_N 246 ii_x207 := ai_case he (fun _ _ _ _ => trivial) ik_x207 ⟨ic_x19 he, ic_x206 he, trivial⟩

def ii_x208 : ai_I := (([.inr (fr 1), .inr (fr 27), .inl (2147483650, 2147483650)], []), ((some (.inl (2147483648, 2147483649)), []), (([4098, 4099, 8194, 8196, 8197, 8198, 8199, 110594, 110595], [28]), 40)))
set_option maxRecDepth 100000 in
theorem ik_x208 : ai_inst (ai_T0, ai_cts [(240, ii_x19), (246, ii_x207), (247, ii_x21)], ai_mem ai_inl, ii_x208.2.2.1, ([4098, 4099, 110594, 110595], [28]), ai_hds []) 1000000 278 [] ii_x208 = true := by decide +kernel
theorem ic_x208 {l : Launch} {X : fx_X} {Y : fx_Y} {B : fx_B} (he : ai_env X B) : ai_con l X Y B ai_T0 ai_N 278 ii_x208 := ai_case he (fun _ _ _ _ => trivial) ik_x208 ⟨ic_x19 he, ic_x207 he, ic_x21 he, trivial⟩

def ii_x209 : ai_I := (([.inr (fr 1), .inr (fr 27), .inl (2147483653, 2147483653), .inl (2147483650, 2147483650)], []), ((some (.inl (2147483648, 2147483649)), []), (([4098, 4099, 8194, 8196, 8197, 8198, 8199, 110594, 110595], [28]), 41)))
set_option maxRecDepth 100000 in
theorem ik_x209 : ai_inst (ai_T0, ai_cts [(278, ii_x208)], ai_mem ai_inl, ii_x209.2.2.1, ([], []), ai_hds []) 1000000 246 [(67, 0)] ii_x209 = true := by decide +kernel
theorem ic_x209 {l : Launch} {X : fx_X} {Y : fx_Y} {B : fx_B} (he : ai_env X B) : ai_con l X Y B ai_T0 ai_N 246 ii_x209 := ai_case he (fun _ _ _ _ => trivial) ik_x209 ⟨ic_x208 he, trivial⟩

def ii_x210 : ai_I := (([.inr (fr 1), .inr (fr 27), .inl (2147483652, 2147483652), .inl (2147483650, 2147483650)], []), ((some (.inl (2147483648, 2147483649)), []), (([4098, 4099, 8194, 8196, 8197, 8198, 8199, 110594, 110595], [28]), 42)))
set_option maxRecDepth 100000 in
theorem ik_x210 : ai_inst (ai_T0, ai_cts [(240, ii_x19), (246, ii_x209)], ai_mem ai_inl, ii_x210.2.2.1, ([110594], [28]), ai_hds [(67, [((0, (5, 0)), ([(0, (.inr (fr 1), (0, 0))), (1, (.inr (fr 27), (0, 0))), (2, (.inl (2147483652, 2147483652), (0, 0))), (3, (.inl (2147483650, 2147483650), (0, 0))), (4, (.inl (2147483679, 2147483679), (0, 0))), (5, (.inl (2147483648, 2147483679), (0, 0)))], []))])]) 1000000 246 [(67, 0)] ii_x210 = true := by decide +kernel
theorem ic_x210 {l : Launch} {X : fx_X} {Y : fx_Y} {B : fx_B} (he : ai_env X B) : ai_con l X Y B ai_T0 ai_N 246 ii_x210 := ai_case he (fun _ _ _ _ => trivial) ik_x210 ⟨ic_x19 he, ic_x209 he, trivial⟩

def ii_x211 : ai_I := (([.inr (fr 1), .inr (fr 27), .inl (2147483651, 2147483651), .inl (2147483650, 2147483650)], []), ((some (.inl (2147483648, 2147483649)), []), (([4098, 4099, 8194, 8196, 8197, 8198, 8199, 110594, 110595], [28]), 43)))
set_option maxRecDepth 100000 in
theorem ik_x211 : ai_inst (ai_T0, ai_cts [(240, ii_x19), (246, ii_x210)], ai_mem ai_inl, ii_x211.2.2.1, ([110594], [28]), ai_hds [(67, [((0, (5, 0)), ([(0, (.inr (fr 1), (0, 0))), (1, (.inr (fr 27), (0, 0))), (2, (.inl (2147483651, 2147483651), (0, 0))), (3, (.inl (2147483650, 2147483650), (0, 0))), (4, (.inl (2147483679, 2147483679), (0, 0))), (5, (.inl (2147483648, 2147483679), (0, 0)))], []))])]) 1000000 246 [(67, 0)] ii_x211 = true := by decide +kernel
theorem ic_x211 {l : Launch} {X : fx_X} {Y : fx_Y} {B : fx_B} (he : ai_env X B) : ai_con l X Y B ai_T0 ai_N 246 ii_x211 := ai_case he (fun _ _ _ _ => trivial) ik_x211 ⟨ic_x19 he, ic_x210 he, trivial⟩

def ii_x212 : ai_I := (([.inr (fr 1), .inr (fr 27), .inl (2147483650, 2147483650)], []), ((some (.inl (2147483648, 2147483649)), []), (([4098, 4099, 8194, 8196, 8197, 8198, 8199, 110594, 110595], [28]), 38)))
set_option maxRecDepth 100000 in
theorem ik_x212 : ai_inst (ai_T0, ai_cts [(240, ii_x19), (246, ii_x205)], ai_mem ai_inl, ii_x212.2.2.1, ([110594], [28]), ai_hds []) 1000000 279 [] ii_x212 = true := by decide +kernel
theorem ic_x212 {l : Launch} {X : fx_X} {Y : fx_Y} {B : fx_B} (he : ai_env X B) : ai_con l X Y B ai_T0 ai_N 279 ii_x212 := ai_case he (fun _ _ _ _ => trivial) ik_x212 ⟨ic_x19 he, ic_x205 he, trivial⟩

def ii_x213 : ai_I := (([.inr (fr 1), .inr (fr 27), .inl (2147483650, 2147483650), .inl (2147483650, 2147483650)], []), ((some (.inl (2147483648, 2147483649)), []), (([4098, 4099, 8194, 8196, 8197, 8198, 8199, 110594, 110595], [28]), 44)))
set_option maxRecDepth 100000 in
theorem ik_x213 : ai_inst (ai_T0, ai_cts [(240, ii_x19), (246, ii_x211), (279, ii_x212)], ai_mem ai_inl, ii_x213.2.2.1, ([110594], [28]), ai_hds [(67, [((0, (5, 0)), ([(0, (.inr (fr 1), (0, 0))), (1, (.inr (fr 27), (0, 0))), (2, (.inl (2147483650, 2147483650), (0, 0))), (3, (.inl (2147483650, 2147483650), (0, 0))), (4, (.inl (2147483649, 2147483649), (0, 0))), (5, (.inl (2147483648, 2147483649), (0, 0)))], [(4096, (.inr (fr 2), (0, 0)))]))])]) 1000000 246 [(67, 0)] ii_x213 = true := by decide +kernel
theorem ic_x213 {l : Launch} {X : fx_X} {Y : fx_Y} {B : fx_B} (he : ai_env X B) : ai_con l X Y B ai_T0 ai_N 246 ii_x213 := ai_case he (fun _ _ _ _ => trivial) ik_x213 ⟨ic_x19 he, ic_x211 he, ic_x212 he, trivial⟩

def ii_x214 : ai_I := (([.inr (fr 1), .inr (fr 27), .inl (2147483649, 2147483649), .inl (2147483650, 2147483650)], []), ((some (.inl (2147483648, 2147483649)), []), (([4098, 4099, 8194, 8196, 8197, 8198, 8199, 110594, 110595], [28]), 45)))
set_option maxRecDepth 100000 in
theorem ik_x214 : ai_inst (ai_T0, ai_cts [(240, ii_x19), (246, ii_x213)], ai_mem ai_inl, ii_x214.2.2.1, ([110594], [28]), ai_hds [(67, [((0, (5, 0)), ([(0, (.inr (fr 1), (0, 0))), (1, (.inr (fr 27), (0, 0))), (2, (.inl (2147483649, 2147483649), (0, 0))), (3, (.inl (2147483650, 2147483650), (0, 0))), (4, (.inl (2147483679, 2147483679), (0, 0))), (5, (.inl (2147483648, 2147483679), (0, 0)))], []))])]) 1000000 246 [(67, 0)] ii_x214 = true := by decide +kernel
theorem ic_x214 {l : Launch} {X : fx_X} {Y : fx_Y} {B : fx_B} (he : ai_env X B) : ai_con l X Y B ai_T0 ai_N 246 ii_x214 := ai_case he (fun _ _ _ _ => trivial) ik_x214 ⟨ic_x19 he, ic_x213 he, trivial⟩

def ii_x215 : ai_I := (([.inr (fr 1), .inr (fr 27), .inl (2147483648, 2147483648), .inl (2147483650, 2147483650)], []), ((some (.inl (2147483648, 2147483649)), []), (([4098, 4099, 8194, 8196, 8197, 8198, 8199, 110594, 110595], [28]), 46)))
set_option maxRecDepth 100000 in
theorem ik_x215 : ai_inst (ai_T0, ai_cts [(240, ii_x19), (246, ii_x214)], ai_mem ai_inl, ii_x215.2.2.1, ([110594], [28]), ai_hds [(67, [((0, (5, 0)), ([(0, (.inr (fr 1), (0, 0))), (1, (.inr (fr 27), (0, 0))), (2, (.inl (2147483648, 2147483648), (0, 0))), (3, (.inl (2147483650, 2147483650), (0, 0))), (4, (.inl (2147483679, 2147483679), (0, 0))), (5, (.inl (2147483648, 2147483679), (0, 0)))], []))])]) 1000000 246 [(67, 0)] ii_x215 = true := by decide +kernel
theorem ic_x215 {l : Launch} {X : fx_X} {Y : fx_Y} {B : fx_B} (he : ai_env X B) : ai_con l X Y B ai_T0 ai_N 246 ii_x215 := ai_case he (fun _ _ _ _ => trivial) ik_x215 ⟨ic_x19 he, ic_x214 he, trivial⟩

def ii_x216 : ai_I := (([.inr (fr 1), .inr (fr 27), .inl (2147483649, 2147483649)], []), ((some (.inl (2147483648, 2147483649)), []), (([4098, 4099, 8194, 8196, 8197, 8198, 8199, 110594, 110595], [28]), 47)))
set_option maxRecDepth 100000 in
theorem ik_x216 : ai_inst (ai_T0, ai_cts [(240, ii_x19), (246, ii_x215), (247, ii_x21)], ai_mem ai_inl, ii_x216.2.2.1, ([4098, 4099, 110594, 110595], [28]), ai_hds []) 1000000 278 [] ii_x216 = true := by decide +kernel
theorem ic_x216 {l : Launch} {X : fx_X} {Y : fx_Y} {B : fx_B} (he : ai_env X B) : ai_con l X Y B ai_T0 ai_N 278 ii_x216 := ai_case he (fun _ _ _ _ => trivial) ik_x216 ⟨ic_x19 he, ic_x215 he, ic_x21 he, trivial⟩

def ii_x217 : ai_I := (([.inr (fr 1), .inr (fr 27), .inl (2147483653, 2147483653), .inl (2147483649, 2147483649)], []), ((some (.inl (2147483648, 2147483649)), []), (([4098, 4099, 8194, 8196, 8197, 8198, 8199, 110594, 110595], [28]), 48)))
set_option maxRecDepth 100000 in
theorem ik_x217 : ai_inst (ai_T0, ai_cts [(278, ii_x216)], ai_mem ai_inl, ii_x217.2.2.1, ([], []), ai_hds []) 1000000 246 [(67, 0)] ii_x217 = true := by decide +kernel
theorem ic_x217 {l : Launch} {X : fx_X} {Y : fx_Y} {B : fx_B} (he : ai_env X B) : ai_con l X Y B ai_T0 ai_N 246 ii_x217 := ai_case he (fun _ _ _ _ => trivial) ik_x217 ⟨ic_x216 he, trivial⟩

def ii_x218 : ai_I := (([.inr (fr 1), .inr (fr 27), .inl (2147483652, 2147483652), .inl (2147483649, 2147483649)], []), ((some (.inl (2147483648, 2147483649)), []), (([4098, 4099, 8194, 8196, 8197, 8198, 8199, 110594, 110595], [28]), 49)))
set_option maxRecDepth 100000 in
theorem ik_x218 : ai_inst (ai_T0, ai_cts [(240, ii_x19), (246, ii_x217)], ai_mem ai_inl, ii_x218.2.2.1, ([110594], [28]), ai_hds [(67, [((0, (5, 0)), ([(0, (.inr (fr 1), (0, 0))), (1, (.inr (fr 27), (0, 0))), (2, (.inl (2147483652, 2147483652), (0, 0))), (3, (.inl (2147483649, 2147483649), (0, 0))), (4, (.inl (2147483679, 2147483679), (0, 0))), (5, (.inl (2147483648, 2147483679), (0, 0)))], []))])]) 1000000 246 [(67, 0)] ii_x218 = true := by decide +kernel
theorem ic_x218 {l : Launch} {X : fx_X} {Y : fx_Y} {B : fx_B} (he : ai_env X B) : ai_con l X Y B ai_T0 ai_N 246 ii_x218 := ai_case he (fun _ _ _ _ => trivial) ik_x218 ⟨ic_x19 he, ic_x217 he, trivial⟩

def ii_x219 : ai_I := (([.inr (fr 1), .inr (fr 27), .inl (2147483651, 2147483651), .inl (2147483649, 2147483649)], []), ((some (.inl (2147483648, 2147483649)), []), (([4098, 4099, 8194, 8196, 8197, 8198, 8199, 110594, 110595], [28]), 50)))
set_option maxRecDepth 100000 in
theorem ik_x219 : ai_inst (ai_T0, ai_cts [(240, ii_x19), (246, ii_x218)], ai_mem ai_inl, ii_x219.2.2.1, ([110594], [28]), ai_hds [(67, [((0, (5, 0)), ([(0, (.inr (fr 1), (0, 0))), (1, (.inr (fr 27), (0, 0))), (2, (.inl (2147483651, 2147483651), (0, 0))), (3, (.inl (2147483649, 2147483649), (0, 0))), (4, (.inl (2147483679, 2147483679), (0, 0))), (5, (.inl (2147483648, 2147483679), (0, 0)))], []))])]) 1000000 246 [(67, 0)] ii_x219 = true := by decide +kernel
theorem ic_x219 {l : Launch} {X : fx_X} {Y : fx_Y} {B : fx_B} (he : ai_env X B) : ai_con l X Y B ai_T0 ai_N 246 ii_x219 := ai_case he (fun _ _ _ _ => trivial) ik_x219 ⟨ic_x19 he, ic_x218 he, trivial⟩

def ii_x220 : ai_I := (([.inr (fr 1), .inr (fr 27), .inl (2147483649, 2147483649)], []), ((some (.inl (2147483648, 2147483649)), []), (([4098, 4099, 8194, 8196, 8197, 8198, 8199, 110594, 110595], [28]), 45)))
set_option maxRecDepth 100000 in
theorem ik_x220 : ai_inst (ai_T0, ai_cts [(240, ii_x19), (246, ii_x213)], ai_mem ai_inl, ii_x220.2.2.1, ([110594], [28]), ai_hds []) 1000000 279 [] ii_x220 = true := by decide +kernel
theorem ic_x220 {l : Launch} {X : fx_X} {Y : fx_Y} {B : fx_B} (he : ai_env X B) : ai_con l X Y B ai_T0 ai_N 279 ii_x220 := ai_case he (fun _ _ _ _ => trivial) ik_x220 ⟨ic_x19 he, ic_x213 he, trivial⟩

def ii_x221 : ai_I := (([.inr (fr 1), .inr (fr 27), .inl (2147483650, 2147483650), .inl (2147483649, 2147483649)], []), ((some (.inl (2147483648, 2147483649)), []), (([4098, 4099, 8194, 8196, 8197, 8198, 8199, 110594, 110595], [28]), 51)))
set_option maxRecDepth 100000 in
theorem ik_x221 : ai_inst (ai_T0, ai_cts [(240, ii_x19), (246, ii_x219), (279, ii_x220)], ai_mem ai_inl, ii_x221.2.2.1, ([110594], [28]), ai_hds [(67, [((0, (5, 0)), ([(0, (.inr (fr 1), (0, 0))), (1, (.inr (fr 27), (0, 0))), (2, (.inl (2147483650, 2147483650), (0, 0))), (3, (.inl (2147483649, 2147483649), (0, 0))), (4, (.inl (2147483649, 2147483649), (0, 0))), (5, (.inl (2147483648, 2147483649), (0, 0)))], [(4096, (.inr (fr 2), (0, 0)))]))])]) 1000000 246 [(67, 0)] ii_x221 = true := by decide +kernel
theorem ic_x221 {l : Launch} {X : fx_X} {Y : fx_Y} {B : fx_B} (he : ai_env X B) : ai_con l X Y B ai_T0 ai_N 246 ii_x221 := ai_case he (fun _ _ _ _ => trivial) ik_x221 ⟨ic_x19 he, ic_x219 he, ic_x220 he, trivial⟩

def ii_x222 : ai_I := (([.inr (fr 1), .inr (fr 27), .inl (2147483649, 2147483649), .inl (2147483649, 2147483649)], []), ((some (.inl (2147483648, 2147483649)), []), (([4098, 4099, 8194, 8196, 8197, 8198, 8199, 110594, 110595], [28]), 52)))
set_option maxRecDepth 100000 in
theorem ik_x222 : ai_inst (ai_T0, ai_cts [(240, ii_x19), (246, ii_x221)], ai_mem ai_inl, ii_x222.2.2.1, ([110594], [28]), ai_hds [(67, [((0, (5, 0)), ([(0, (.inr (fr 1), (0, 0))), (1, (.inr (fr 27), (0, 0))), (2, (.inl (2147483649, 2147483649), (0, 0))), (3, (.inl (2147483649, 2147483649), (0, 0))), (4, (.inl (2147483679, 2147483679), (0, 0))), (5, (.inl (2147483648, 2147483679), (0, 0)))], []))])]) 1000000 246 [(67, 0)] ii_x222 = true := by decide +kernel
theorem ic_x222 {l : Launch} {X : fx_X} {Y : fx_Y} {B : fx_B} (he : ai_env X B) : ai_con l X Y B ai_T0 ai_N 246 ii_x222 := ai_case he (fun _ _ _ _ => trivial) ik_x222 ⟨ic_x19 he, ic_x221 he, trivial⟩

def ii_x223 : ai_I := (([.inr (fr 1), .inr (fr 27), .inl (2147483648, 2147483648), .inl (2147483649, 2147483649)], []), ((some (.inl (2147483648, 2147483649)), []), (([4098, 4099, 8194, 8196, 8197, 8198, 8199, 110594, 110595], [28]), 53)))
set_option maxRecDepth 100000 in
theorem ik_x223 : ai_inst (ai_T0, ai_cts [(240, ii_x19), (246, ii_x222)], ai_mem ai_inl, ii_x223.2.2.1, ([110594], [28]), ai_hds [(67, [((0, (5, 0)), ([(0, (.inr (fr 1), (0, 0))), (1, (.inr (fr 27), (0, 0))), (2, (.inl (2147483648, 2147483648), (0, 0))), (3, (.inl (2147483649, 2147483649), (0, 0))), (4, (.inl (2147483679, 2147483679), (0, 0))), (5, (.inl (2147483648, 2147483679), (0, 0)))], []))])]) 1000000 246 [(67, 0)] ii_x223 = true := by decide +kernel
theorem ic_x223 {l : Launch} {X : fx_X} {Y : fx_Y} {B : fx_B} (he : ai_env X B) : ai_con l X Y B ai_T0 ai_N 246 ii_x223 := ai_case he (fun _ _ _ _ => trivial) ik_x223 ⟨ic_x19 he, ic_x222 he, trivial⟩
