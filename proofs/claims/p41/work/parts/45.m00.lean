def ii_m_feed_b0_b0 : ai_I := (([.inr (fr 67), .inl (0, 4294967295), .inl (0, 4294967295), .inl (0, 4294967295), .inl (0, 4294967295), .inl (0, 4294967295)], [(274469, .inl (2147483648, 2147483648))]), ((some (.inl (2147483647, 2147485248)), []), (([274434], [68]), 0)))
set_option maxRecDepth 100000 in
theorem ik_m_feed_b0_b0 : ai_inst (ai_T0, ai_cts [], ai_mem ai_inl, ii_m_feed_b0_b0.2.2.1, ([274434], [68]), ai_hds [(18, [((0, (6, 0)), ([(0, (.inr (fr 67), (0, 0))), (1, (.inl (0, 4294967295), (0, 0))), (2, (.inl (0, 4294967295), (0, 0))), (3, (.inl (0, 4294967295), (0, 0))), (4, (.inl (0, 4294967295), (0, 0))), (5, (.inl (0, 4294967295), (0, 0))), (6, (.inl (2147483648, 2147483668), (0, 0)))], [(274434, (.inl (2147483648, 2147485228), (0, 0))), (274469, (.inl (2147483648, 2147483648), (0, 0)))]))])]) 1000000 28 [(18, 0)] ii_m_feed_b0_b0 = true := by decide +kernel
theorem ic_m_feed_b0_b0 {l : Launch} {X : fx_X} {Y : fx_Y} {B : fx_B} (he : ai_env X B) : ai_con l X Y B ai_T0 ai_N 28 ii_m_feed_b0_b0 := ai_case he (fun _ _ _ _ => trivial) ik_m_feed_b0_b0 trivial

def ii_m_end_b0_b0 : ai_I := (([.inr (fr 67), .inl (0, 4294967295)], [(274469, .inl (2147483648, 2147483648))]), ((some (.inl (2147483647, 2147485248)), []), (([274434], []), 0)))
set_option maxRecDepth 100000 in
theorem ik_m_end_b0_b0 : ai_inst (ai_T0, ai_cts [], ai_mem ai_inl, ii_m_end_b0_b0.2.2.1, ([274434], []), ai_hds []) 1000000 30 [] ii_m_end_b0_b0 = true := by decide +kernel
theorem ic_m_end_b0_b0 {l : Launch} {X : fx_X} {Y : fx_Y} {B : fx_B} (he : ai_env X B) : ai_con l X Y B ai_T0 ai_N 30 ii_m_end_b0_b0 := ai_case he (fun _ _ _ _ => trivial) ik_m_end_b0_b0 trivial

def ii_m_fault_b0_b0 : ai_I := (([.inr (fr 67), .inl (0, 4294967295)], [(274469, .inl (2147483648, 2147483648))]), ((some (.inl (2147483647, 2147485248)), []), (([], []), 0)))
set_option maxRecDepth 100000 in
theorem ik_m_fault_b0_b0 : ai_inst (ai_T0, ai_cts [], ai_mem ai_inl, ii_m_fault_b0_b0.2.2.1, ([], []), ai_hds []) 1000000 34 [] ii_m_fault_b0_b0 = true := by decide +kernel
theorem ic_m_fault_b0_b0 {l : Launch} {X : fx_X} {Y : fx_Y} {B : fx_B} (he : ai_env X B) : ai_con l X Y B ai_T0 ai_N 34 ii_m_fault_b0_b0 := ai_case he (fun _ _ _ _ => trivial) ik_m_fault_b0_b0 trivial

def ii_m_areBeside_b0 : ai_I := (([.inr (fr 67), .inl (2147483648, 2147483654), .inl (2147483648, 2147483654)], [(274469, .inl (2147483648, 2147483648))]), ((some (.inl (2147483648, 2147483649)), []), (([], []), 1)))
set_option maxRecDepth 100000 in
theorem ik_m_areBeside_b0 : ai_inst (ai_T0, ai_cts [], ai_mem ai_inl, ii_m_areBeside_b0.2.2.1, ([], []), ai_hds []) 1000000 175 [] ii_m_areBeside_b0 = true := by decide +kernel
theorem ic_m_areBeside_b0 {l : Launch} {X : fx_X} {Y : fx_Y} {B : fx_B} (he : ai_env X B) : ai_con l X Y B ai_T0 ai_N 175 ii_m_areBeside_b0 := ai_case he (fun _ _ _ _ => trivial) ik_m_areBeside_b0 trivial

def ii_m_beside_b0 : ai_I := (([.inr (fr 67), .inl (2147483648, 2147483654)], [(274469, .inl (2147483648, 2147483648))]), ((some (.inl (2147483648, 2147483775)), []), (([], []), 2)))
set_option maxRecDepth 100000 in
theorem ik_m_beside_b0 : ai_inst (ai_T0, ai_cts [(175, ii_m_areBeside_b0)], ai_mem ai_inl, ii_m_beside_b0.2.2.1, ([], []), ai_hds [(4, [((0, (3, 0)), ([(0, (.inr (fr 67), (0, 0))), (1, (.inl (2147483648, 2147483654), (0, 0))), (2, (.inl (2147483648, 2147483775), (0, 0))), (3, (.inl (2147483648, 2147483655), (0, 0)))], [(274469, (.inl (2147483648, 2147483648), (0, 0)))]))])]) 1000000 131 [(4, 0)] ii_m_beside_b0 = true := by decide +kernel
theorem ic_m_beside_b0 {l : Launch} {X : fx_X} {Y : fx_Y} {B : fx_B} (he : ai_env X B) : ai_con l X Y B ai_T0 ai_N 131 ii_m_beside_b0 := ai_case he (fun _ _ _ _ => trivial) ik_m_beside_b0 ⟨ic_m_areBeside_b0 he, trivial⟩

def ii_m_facesOf_b0 : ai_I := (([.inr (fr 67), .inl (2147483647, 2147483775)], [(274469, .inl (2147483648, 2147483648))]), ((some (.inl (0, 4294967295)), []), (([], []), 1)))
set_option maxRecDepth 100000 in
theorem ik_m_facesOf_b0 : ai_inst (ai_T0, ai_cts [], ai_mem ai_inl, ii_m_facesOf_b0.2.2.1, ([], []), ai_hds [(4, [((0, (3, 0)), ([(0, (.inr (fr 67), (0, 0))), (1, (.inl (2147483647, 2147483775), (0, 0))), (2, (.inl (0, 4294967295), (0, 0))), (3, (.inl (2147483648, 2147483655), (0, 0)))], [(274469, (.inl (2147483648, 2147483648), (0, 0)))]))])]) 1000000 132 [(4, 0)] ii_m_facesOf_b0 = true := by decide +kernel
theorem ic_m_facesOf_b0 {l : Launch} {X : fx_X} {Y : fx_Y} {B : fx_B} (he : ai_env X B) : ai_con l X Y B ai_T0 ai_N 132 ii_m_facesOf_b0 := ai_case he (fun _ _ _ _ => trivial) ik_m_facesOf_b0 trivial

def ii_m_membersOf_b0 : ai_I := (([.inr (fr 67), .inl (2147483648, 2147483651)], [(274469, .inl (2147483648, 2147483648))]), ((some (.inl (2147483648, 2147483775)), []), (([], []), 1)))
set_option maxRecDepth 100000 in
theorem ik_m_membersOf_b0 : ai_inst (ai_T0, ai_cts [], ai_mem ai_inl, ii_m_membersOf_b0.2.2.1, ([], []), ai_hds [(4, [((0, (3, 0)), ([(0, (.inr (fr 67), (0, 0))), (1, (.inl (2147483648, 2147483651), (0, 0))), (2, (.inl (2147483648, 2147483775), (0, 0))), (3, (.inl (2147483648, 2147483655), (0, 0)))], [(274469, (.inl (2147483648, 2147483648), (0, 0)))]))])]) 1000000 137 [(4, 0)] ii_m_membersOf_b0 = true := by decide +kernel
theorem ic_m_membersOf_b0 {l : Launch} {X : fx_X} {Y : fx_Y} {B : fx_B} (he : ai_env X B) : ai_con l X Y B ai_T0 ai_N 137 ii_m_membersOf_b0 := ai_case he (fun _ _ _ _ => trivial) ik_m_membersOf_b0 trivial

def ii_m_whoSits_b0 : ai_I := (([.inr (fr 67), .inl (2147483648, 2147483663)], [(274469, .inl (2147483648, 2147483648))]), ((some (.inl (2147483647, 2147483654)), []), (([], []), 1)))
set_option maxRecDepth 100000 in
theorem ik_m_whoSits_b0 : ai_inst (ai_T0, ai_cts [], ai_mem ai_inl, ii_m_whoSits_b0.2.2.1, ([], []), ai_hds [(2, [((0, (2, 0)), ([(0, (.inr (fr 67), (0, 0))), (1, (.inl (2147483648, 2147483663), (0, 0))), (2, (.inl (2147483648, 2147483655), (0, 0)))], [(274469, (.inl (2147483648, 2147483648), (0, 0)))]))])]) 1000000 142 [(2, 0)] ii_m_whoSits_b0 = true := by decide +kernel
theorem ic_m_whoSits_b0 {l : Launch} {X : fx_X} {Y : fx_Y} {B : fx_B} (he : ai_env X B) : ai_con l X Y B ai_T0 ai_N 142 ii_m_whoSits_b0 := ai_case he (fun _ _ _ _ => trivial) ik_m_whoSits_b0 trivial

def ii_m_report_b0_b0 : ai_I := (([.inr (fr 67)], [(274469, .inl (2147483648, 2147483648))]), ((some (.inl (0, 4294967295)), []), (([], []), 3)))
set_option maxRecDepth 100000 in
theorem ik_m_report_b0_b0 : ai_inst (ai_T0, ai_cts [(132, ii_m_facesOf_b0)], ai_mem ai_inl, ii_m_report_b0_b0.2.2.1, ([], []), ai_hds []) 1000000 42 [] ii_m_report_b0_b0 = true := by decide +kernel
theorem ic_m_report_b0_b0 {l : Launch} {X : fx_X} {Y : fx_Y} {B : fx_B} (he : ai_env X B) : ai_con l X Y B ai_T0 ai_N 42 ii_m_report_b0_b0 := ai_case he (fun _ _ _ _ => trivial) ik_m_report_b0_b0 ⟨ic_m_facesOf_b0 he, trivial⟩

def ii_m_keepNow : ai_I := (([.inr (fr 67)], []), ((none, []), (([], [101]), 0)))
set_option maxRecDepth 100000 in
theorem ik_m_keepNow : ai_inst (ai_T0, ai_cts [], ai_mem ai_inl, ii_m_keepNow.2.2.1, ([], [101]), ai_hds []) 1000000 184 [] ii_m_keepNow = true := by decide +kernel
theorem ic_m_keepNow {l : Launch} {X : fx_X} {Y : fx_Y} {B : fx_B} (he : ai_env X B) : ai_con l X Y B ai_T0 ai_N 184 ii_m_keepNow := ai_case he (fun _ _ _ _ => trivial) ik_m_keepNow trivial

def ii_m_bringBack : ai_I := (([.inr (fr 67)], []), ((none, []), (([], [96]), 0)))
set_option maxRecDepth 100000 in
theorem ik_m_bringBack : ai_inst (ai_T0, ai_cts [], ai_mem ai_inl, ii_m_bringBack.2.2.1, ([], [96]), ai_hds []) 1000000 187 [] ii_m_bringBack = true := by decide +kernel
theorem ic_m_bringBack {l : Launch} {X : fx_X} {Y : fx_Y} {B : fx_B} (he : ai_env X B) : ai_con l X Y B ai_T0 ai_N 187 ii_m_bringBack := ai_case he (fun _ _ _ _ => trivial) ik_m_bringBack trivial

def ii_m_areAlike_b0 : ai_I := (([.inr (fr 67)], [(274469, .inl (2147483648, 2147483648))]), ((some (.inl (2147483648, 2147483649)), []), (([], []), 1)))
set_option maxRecDepth 100000 in
theorem ik_m_areAlike_b0 : ai_inst (ai_T0, ai_cts [], ai_mem ai_inl, ii_m_areAlike_b0.2.2.1, ([], []), ai_hds [(2, [((0, (1, 0)), ([(0, (.inr (fr 67), (0, 0))), (1, (.inl (2147483649, 2147483655), (0, 0)))], [(274469, (.inl (2147483648, 2147483648), (0, 0)))]))])]) 1000000 191 [(2, 0)] ii_m_areAlike_b0 = true := by decide +kernel
theorem ic_m_areAlike_b0 {l : Launch} {X : fx_X} {Y : fx_Y} {B : fx_B} (he : ai_env X B) : ai_con l X Y B ai_T0 ai_N 191 ii_m_areAlike_b0 := ai_case he (fun _ _ _ _ => trivial) ik_m_areAlike_b0 trivial

def ii_m_lies_b0_b0 : ai_I := (([.inr (fr 67), .inl (0, 4294967295)], [(274469, .inl (2147483648, 2147483648))]), ((some (.inl (2147483647, 2147483654)), []), (([], []), 1)))
set_option maxRecDepth 100000 in
theorem ik_m_lies_b0_b0 : ai_inst (ai_T0, ai_cts [], ai_mem ai_inl, ii_m_lies_b0_b0.2.2.1, ([], []), ai_hds []) 1000000 100 [] ii_m_lies_b0_b0 = true := by decide +kernel
theorem ic_m_lies_b0_b0 {l : Launch} {X : fx_X} {Y : fx_Y} {B : fx_B} (he : ai_env X B) : ai_con l X Y B ai_T0 ai_N 100 ii_m_lies_b0_b0 := ai_case he (fun _ _ _ _ => trivial) ik_m_lies_b0_b0 trivial

def ii_m_looks_b0_b0 : ai_I := (([.inr (fr 67), .inl (0, 4294967295), .inl (0, 4294967295), .inl (0, 4294967295), .inl (2147483648, 2147483649)], [(274469, .inl (2147483648, 2147483648))]), ((some (.inl (2147483647, 2147483677)), []), (([274501], [105, 106, 107, 108, 109, 110]), 2)))
set_option maxRecDepth 100000 in
theorem ik_m_looks_b0_b0 : ai_inst (ai_T0, ai_cts [], ai_mem ai_inl, ii_m_looks_b0_b0.2.2.1, ([274501], [105, 106, 107, 108, 109, 110]), ai_hds []) 1000000 102 [] ii_m_looks_b0_b0 = true := by decide +kernel
theorem ic_m_looks_b0_b0 {l : Launch} {X : fx_X} {Y : fx_Y} {B : fx_B} (he : ai_env X B) : ai_con l X Y B ai_T0 ai_N 102 ii_m_looks_b0_b0 := ai_case he (fun _ _ _ _ => trivial) ik_m_looks_b0_b0 trivial

def ii_m_untell_b0_b0 : ai_I := (([.inr (fr 67), .inl (0, 4294967295)], [(274469, .inl (2147483648, 2147483648))]), ((some (.inl (2147483648, 2147483649)), []), (([], [110]), 1)))
set_option maxRecDepth 100000 in
theorem ik_m_untell_b0_b0 : ai_inst (ai_T0, ai_cts [], ai_mem ai_inl, ii_m_untell_b0_b0.2.2.1, ([], [110]), ai_hds []) 1000000 104 [] ii_m_untell_b0_b0 = true := by decide +kernel
theorem ic_m_untell_b0_b0 {l : Launch} {X : fx_X} {Y : fx_Y} {B : fx_B} (he : ai_env X B) : ai_con l X Y B ai_T0 ai_N 104 ii_m_untell_b0_b0 := ai_case he (fun _ _ _ _ => trivial) ik_m_untell_b0_b0 trivial

def ii_m_later_b0_b0 : ai_I := (([.inr (fr 67), .inl (0, 4294967295)], [(274469, .inl (2147483648, 2147483648))]), ((some (.inl (0, 4294967295)), []), (([274502], []), 1)))
set_option maxRecDepth 100000 in
theorem ik_m_later_b0_b0 : ai_inst (ai_T0, ai_cts [], ai_mem ai_inl, ii_m_later_b0_b0.2.2.1, ([274502], []), ai_hds []) 1000000 106 [] ii_m_later_b0_b0 = true := by decide +kernel
theorem ic_m_later_b0_b0 {l : Launch} {X : fx_X} {Y : fx_Y} {B : fx_B} (he : ai_env X B) : ai_con l X Y B ai_T0 ai_N 106 ii_m_later_b0_b0 := ai_case he (fun _ _ _ _ => trivial) ik_m_later_b0_b0 trivial

def ii_m_image_b0_b0 : ai_I := (([.inr (fr 67), .inl (0, 4294967295)], [(274469, .inl (2147483648, 2147483648))]), ((some (.inl (0, 4294967295)), []), (([], [112, 113]), 1)))
set_option maxRecDepth 100000 in
theorem ik_m_image_b0_b0 : ai_inst (ai_T0, ai_cts [], ai_mem ai_inl, ii_m_image_b0_b0.2.2.1, ([], [112, 113]), ai_hds []) 1000000 112 [(26, 1)] ii_m_image_b0_b0 = true := by decide +kernel
theorem ic_m_image_b0_b0 {l : Launch} {X : fx_X} {Y : fx_Y} {B : fx_B} (he : ai_env X B) : ai_con l X Y B ai_T0 ai_N 112 ii_m_image_b0_b0 := ai_case he (fun _ _ _ _ => trivial) ik_m_image_b0_b0 trivial

def ii_m_back_b0_b0 : ai_I := (([.inr (fr 67), .inl (0, 4294967295)], [(274469, .inl (2147483648, 2147483648))]), ((some (.inl (0, 4294967295)), []), (([274485, 274486], [96]), 1)))
set_option maxRecDepth 100000 in
theorem ik_m_back_b0_b0 : ai_inst (ai_T0, ai_cts [], ai_mem ai_inl, ii_m_back_b0_b0.2.2.1, ([274485, 274486], [96]), ai_hds []) 1000000 114 [(40, 1)] ii_m_back_b0_b0 = true := by decide +kernel
theorem ic_m_back_b0_b0 {l : Launch} {X : fx_X} {Y : fx_Y} {B : fx_B} (he : ai_env X B) : ai_con l X Y B ai_T0 ai_N 114 ii_m_back_b0_b0 := ai_case he (fun _ _ _ _ => trivial) ik_m_back_b0_b0 trivial

def ii_m_about_b0_b0 : ai_I := (([.inr (fr 67), .inl (0, 4294967295)], [(274469, .inl (2147483648, 2147483648))]), ((some (.inl (0, 4294967295)), []), (([], []), 1)))
set_option maxRecDepth 100000 in
theorem ik_m_about_b0_b0 : ai_inst (ai_T0, ai_cts [], ai_mem ai_inl, ii_m_about_b0_b0.2.2.1, ([], []), ai_hds []) 1000000 116 [] ii_m_about_b0_b0 = true := by decide +kernel
theorem ic_m_about_b0_b0 {l : Launch} {X : fx_X} {Y : fx_Y} {B : fx_B} (he : ai_env X B) : ai_con l X Y B ai_T0 ai_N 116 ii_m_about_b0_b0 := ai_case he (fun _ _ _ _ => trivial) ik_m_about_b0_b0 trivial

def ii_m_feed_b1_b1 : ai_I := (([.inr (fr 67), .inl (0, 4294967295), .inl (0, 4294967295), .inl (0, 4294967295), .inl (0, 4294967295), .inl (0, 4294967295)], [(274469, .inl (2147483649, 2147483649)), (286721, .inl (2147483649, 2147483652))]), ((some (.inl (2147483647, 2147485248)), []), (([274434], [68]), 0)))
set_option maxRecDepth 100000 in
theorem ik_m_feed_b1_b1 : ai_inst (ai_T0, ai_cts [], ai_mem ai_inl, ii_m_feed_b1_b1.2.2.1, ([274434], [68]), ai_hds [(18, [((0, (6, 0)), ([(0, (.inr (fr 67), (0, 0))), (1, (.inl (0, 4294967295), (0, 0))), (2, (.inl (0, 4294967295), (0, 0))), (3, (.inl (0, 4294967295), (0, 0))), (4, (.inl (0, 4294967295), (0, 0))), (5, (.inl (0, 4294967295), (0, 0))), (6, (.inl (2147483648, 2147483668), (0, 0)))], [(274434, (.inl (2147483648, 2147485228), (0, 0))), (274469, (.inl (2147483649, 2147483649), (0, 0))), (286721, (.inl (2147483649, 2147483652), (0, 0)))]))])]) 1000000 28 [(18, 0)] ii_m_feed_b1_b1 = true := by decide +kernel
theorem ic_m_feed_b1_b1 {l : Launch} {X : fx_X} {Y : fx_Y} {B : fx_B} (he : ai_env X B) : ai_con l X Y B ai_T0 ai_N 28 ii_m_feed_b1_b1 := ai_case he (fun _ _ _ _ => trivial) ik_m_feed_b1_b1 trivial

def ii_m_end_b1_b1 : ai_I := (([.inr (fr 67), .inl (0, 4294967295)], [(274469, .inl (2147483649, 2147483649)), (286721, .inl (2147483649, 2147483652))]), ((some (.inl (2147483647, 2147485248)), []), (([274434], []), 0)))
set_option maxRecDepth 100000 in
theorem ik_m_end_b1_b1 : ai_inst (ai_T0, ai_cts [], ai_mem ai_inl, ii_m_end_b1_b1.2.2.1, ([274434], []), ai_hds []) 1000000 30 [] ii_m_end_b1_b1 = true := by decide +kernel
theorem ic_m_end_b1_b1 {l : Launch} {X : fx_X} {Y : fx_Y} {B : fx_B} (he : ai_env X B) : ai_con l X Y B ai_T0 ai_N 30 ii_m_end_b1_b1 := ai_case he (fun _ _ _ _ => trivial) ik_m_end_b1_b1 trivial

def ii_m_fault_b1_b1 : ai_I := (([.inr (fr 67), .inl (0, 4294967295)], [(274469, .inl (2147483649, 2147483649)), (286721, .inl (2147483649, 2147483652))]), ((some (.inl (2147483647, 2147485248)), []), (([], []), 0)))
set_option maxRecDepth 100000 in
theorem ik_m_fault_b1_b1 : ai_inst (ai_T0, ai_cts [], ai_mem ai_inl, ii_m_fault_b1_b1.2.2.1, ([], []), ai_hds []) 1000000 34 [] ii_m_fault_b1_b1 = true := by decide +kernel
theorem ic_m_fault_b1_b1 {l : Launch} {X : fx_X} {Y : fx_Y} {B : fx_B} (he : ai_env X B) : ai_con l X Y B ai_T0 ai_N 34 ii_m_fault_b1_b1 := ai_case he (fun _ _ _ _ => trivial) ik_m_fault_b1_b1 trivial

def ii_m_areBeside_b1 : ai_I := (([.inr (fr 67), .inl (2147483648, 2147483654), .inl (2147483648, 2147483654)], [(274469, .inl (2147483649, 2147483649)), (286721, .inl (2147483649, 2147483652))]), ((some (.inl (2147483648, 2147483649)), []), (([], []), 1)))
set_option maxRecDepth 100000 in
theorem ik_m_areBeside_b1 : ai_inst (ai_T0, ai_cts [], ai_mem ai_inl, ii_m_areBeside_b1.2.2.1, ([], []), ai_hds []) 1000000 175 [] ii_m_areBeside_b1 = true := by decide +kernel
theorem ic_m_areBeside_b1 {l : Launch} {X : fx_X} {Y : fx_Y} {B : fx_B} (he : ai_env X B) : ai_con l X Y B ai_T0 ai_N 175 ii_m_areBeside_b1 := ai_case he (fun _ _ _ _ => trivial) ik_m_areBeside_b1 trivial

def ii_m_beside_b1 : ai_I := (([.inr (fr 67), .inl (2147483648, 2147483654)], [(274469, .inl (2147483649, 2147483649)), (286721, .inl (2147483649, 2147483652))]), ((some (.inl (2147483648, 2147483775)), []), (([], []), 2)))
set_option maxRecDepth 100000 in
theorem ik_m_beside_b1 : ai_inst (ai_T0, ai_cts [(175, ii_m_areBeside_b1)], ai_mem ai_inl, ii_m_beside_b1.2.2.1, ([], []), ai_hds [(4, [((0, (3, 0)), ([(0, (.inr (fr 67), (0, 0))), (1, (.inl (2147483648, 2147483654), (0, 0))), (2, (.inl (2147483648, 2147483775), (0, 0))), (3, (.inl (2147483648, 2147483655), (0, 0)))], [(274469, (.inl (2147483649, 2147483649), (0, 0))), (286721, (.inl (2147483649, 2147483652), (0, 0)))]))])]) 1000000 131 [(4, 0)] ii_m_beside_b1 = true := by decide +kernel
theorem ic_m_beside_b1 {l : Launch} {X : fx_X} {Y : fx_Y} {B : fx_B} (he : ai_env X B) : ai_con l X Y B ai_T0 ai_N 131 ii_m_beside_b1 := ai_case he (fun _ _ _ _ => trivial) ik_m_beside_b1 ⟨ic_m_areBeside_b1 he, trivial⟩

def ii_m_facesOf_b1 : ai_I := (([.inr (fr 67), .inl (2147483647, 2147483775)], [(274469, .inl (2147483649, 2147483649))]), ((some (.inl (0, 4294967295)), []), (([], []), 1)))
set_option maxRecDepth 100000 in
theorem ik_m_facesOf_b1 : ai_inst (ai_T0, ai_cts [], ai_mem ai_inl, ii_m_facesOf_b1.2.2.1, ([], []), ai_hds [(4, [((0, (3, 0)), ([(0, (.inr (fr 67), (0, 0))), (1, (.inl (2147483647, 2147483775), (0, 0))), (2, (.inl (0, 4294967295), (0, 0))), (3, (.inl (2147483648, 2147483655), (0, 0)))], [(274469, (.inl (2147483649, 2147483649), (0, 0)))]))])]) 1000000 132 [(4, 0)] ii_m_facesOf_b1 = true := by decide +kernel
theorem ic_m_facesOf_b1 {l : Launch} {X : fx_X} {Y : fx_Y} {B : fx_B} (he : ai_env X B) : ai_con l X Y B ai_T0 ai_N 132 ii_m_facesOf_b1 := ai_case he (fun _ _ _ _ => trivial) ik_m_facesOf_b1 trivial

def ii_m_membersOf_b1 : ai_I := (([.inr (fr 67), .inl (2147483648, 2147483651)], [(274469, .inl (2147483649, 2147483649))]), ((some (.inl (2147483648, 2147483775)), []), (([], []), 1)))
set_option maxRecDepth 100000 in
theorem ik_m_membersOf_b1 : ai_inst (ai_T0, ai_cts [], ai_mem ai_inl, ii_m_membersOf_b1.2.2.1, ([], []), ai_hds [(4, [((0, (3, 0)), ([(0, (.inr (fr 67), (0, 0))), (1, (.inl (2147483648, 2147483651), (0, 0))), (2, (.inl (2147483648, 2147483775), (0, 0))), (3, (.inl (2147483648, 2147483655), (0, 0)))], [(274469, (.inl (2147483649, 2147483649), (0, 0)))]))])]) 1000000 137 [(4, 0)] ii_m_membersOf_b1 = true := by decide +kernel
theorem ic_m_membersOf_b1 {l : Launch} {X : fx_X} {Y : fx_Y} {B : fx_B} (he : ai_env X B) : ai_con l X Y B ai_T0 ai_N 137 ii_m_membersOf_b1 := ai_case he (fun _ _ _ _ => trivial) ik_m_membersOf_b1 trivial

def ii_m_whoSits_b1 : ai_I := (([.inr (fr 67), .inl (2147483648, 2147483663)], [(274469, .inl (2147483649, 2147483649))]), ((some (.inl (2147483647, 2147483654)), []), (([], []), 1)))
set_option maxRecDepth 100000 in
theorem ik_m_whoSits_b1 : ai_inst (ai_T0, ai_cts [], ai_mem ai_inl, ii_m_whoSits_b1.2.2.1, ([], []), ai_hds [(2, [((0, (2, 0)), ([(0, (.inr (fr 67), (0, 0))), (1, (.inl (2147483648, 2147483663), (0, 0))), (2, (.inl (2147483648, 2147483655), (0, 0)))], [(274469, (.inl (2147483649, 2147483649), (0, 0)))]))])]) 1000000 142 [(2, 0)] ii_m_whoSits_b1 = true := by decide +kernel
theorem ic_m_whoSits_b1 {l : Launch} {X : fx_X} {Y : fx_Y} {B : fx_B} (he : ai_env X B) : ai_con l X Y B ai_T0 ai_N 142 ii_m_whoSits_b1 := ai_case he (fun _ _ _ _ => trivial) ik_m_whoSits_b1 trivial

def ii_m_report_b1_b1 : ai_I := (([.inr (fr 67)], [(274469, .inl (2147483649, 2147483649)), (286721, .inl (2147483649, 2147483652))]), ((some (.inl (0, 4294967295)), []), (([], []), 3)))
set_option maxRecDepth 100000 in
theorem ik_m_report_b1_b1 : ai_inst (ai_T0, ai_cts [(132, ii_m_facesOf_b1)], ai_mem ai_inl, ii_m_report_b1_b1.2.2.1, ([], []), ai_hds []) 1000000 42 [] ii_m_report_b1_b1 = true := by decide +kernel
theorem ic_m_report_b1_b1 {l : Launch} {X : fx_X} {Y : fx_Y} {B : fx_B} (he : ai_env X B) : ai_con l X Y B ai_T0 ai_N 42 ii_m_report_b1_b1 := ai_case he (fun _ _ _ _ => trivial) ik_m_report_b1_b1 ⟨ic_m_facesOf_b1 he, trivial⟩

def ii_m_areAlike_b1 : ai_I := (([.inr (fr 67)], [(274469, .inl (2147483649, 2147483649))]), ((some (.inl (2147483648, 2147483649)), []), (([], []), 1)))
set_option maxRecDepth 100000 in
theorem ik_m_areAlike_b1 : ai_inst (ai_T0, ai_cts [], ai_mem ai_inl, ii_m_areAlike_b1.2.2.1, ([], []), ai_hds [(2, [((0, (1, 0)), ([(0, (.inr (fr 67), (0, 0))), (1, (.inl (2147483649, 2147483655), (0, 0)))], [(274469, (.inl (2147483649, 2147483649), (0, 0)))]))])]) 1000000 191 [(2, 0)] ii_m_areAlike_b1 = true := by decide +kernel
theorem ic_m_areAlike_b1 {l : Launch} {X : fx_X} {Y : fx_Y} {B : fx_B} (he : ai_env X B) : ai_con l X Y B ai_T0 ai_N 191 ii_m_areAlike_b1 := ai_case he (fun _ _ _ _ => trivial) ik_m_areAlike_b1 trivial

def ii_m_lies_b1_b1 : ai_I := (([.inr (fr 67), .inl (0, 4294967295)], [(274469, .inl (2147483649, 2147483649)), (286721, .inl (2147483649, 2147483652))]), ((some (.inl (2147483647, 2147483654)), []), (([], []), 1)))
set_option maxRecDepth 100000 in
theorem ik_m_lies_b1_b1 : ai_inst (ai_T0, ai_cts [], ai_mem ai_inl, ii_m_lies_b1_b1.2.2.1, ([], []), ai_hds []) 1000000 100 [] ii_m_lies_b1_b1 = true := by decide +kernel
theorem ic_m_lies_b1_b1 {l : Launch} {X : fx_X} {Y : fx_Y} {B : fx_B} (he : ai_env X B) : ai_con l X Y B ai_T0 ai_N 100 ii_m_lies_b1_b1 := ai_case he (fun _ _ _ _ => trivial) ik_m_lies_b1_b1 trivial

def ii_m_looks_b1_b1 : ai_I := (([.inr (fr 67), .inl (0, 4294967295), .inl (0, 4294967295), .inl (0, 4294967295), .inl (2147483648, 2147483649)], [(274469, .inl (2147483649, 2147483649)), (286721, .inl (2147483649, 2147483652))]), ((some (.inl (2147483647, 2147483677)), []), (([274501], [105, 106, 107, 108, 109, 110]), 2)))
set_option maxRecDepth 100000 in
theorem ik_m_looks_b1_b1 : ai_inst (ai_T0, ai_cts [], ai_mem ai_inl, ii_m_looks_b1_b1.2.2.1, ([274501], [105, 106, 107, 108, 109, 110]), ai_hds []) 1000000 102 [] ii_m_looks_b1_b1 = true := by decide +kernel
theorem ic_m_looks_b1_b1 {l : Launch} {X : fx_X} {Y : fx_Y} {B : fx_B} (he : ai_env X B) : ai_con l X Y B ai_T0 ai_N 102 ii_m_looks_b1_b1 := ai_case he (fun _ _ _ _ => trivial) ik_m_looks_b1_b1 trivial

def ii_m_untell_b1_b1 : ai_I := (([.inr (fr 67), .inl (0, 4294967295)], [(274469, .inl (2147483649, 2147483649)), (286721, .inl (2147483649, 2147483652))]), ((some (.inl (2147483648, 2147483649)), []), (([], [110]), 1)))
set_option maxRecDepth 100000 in
theorem ik_m_untell_b1_b1 : ai_inst (ai_T0, ai_cts [], ai_mem ai_inl, ii_m_untell_b1_b1.2.2.1, ([], [110]), ai_hds []) 1000000 104 [] ii_m_untell_b1_b1 = true := by decide +kernel
theorem ic_m_untell_b1_b1 {l : Launch} {X : fx_X} {Y : fx_Y} {B : fx_B} (he : ai_env X B) : ai_con l X Y B ai_T0 ai_N 104 ii_m_untell_b1_b1 := ai_case he (fun _ _ _ _ => trivial) ik_m_untell_b1_b1 trivial

def ii_m_later_b1_b1 : ai_I := (([.inr (fr 67), .inl (0, 4294967295)], [(274469, .inl (2147483649, 2147483649)), (286721, .inl (2147483649, 2147483652))]), ((some (.inl (0, 4294967295)), []), (([274502], []), 1)))
set_option maxRecDepth 100000 in
theorem ik_m_later_b1_b1 : ai_inst (ai_T0, ai_cts [], ai_mem ai_inl, ii_m_later_b1_b1.2.2.1, ([274502], []), ai_hds []) 1000000 106 [] ii_m_later_b1_b1 = true := by decide +kernel
theorem ic_m_later_b1_b1 {l : Launch} {X : fx_X} {Y : fx_Y} {B : fx_B} (he : ai_env X B) : ai_con l X Y B ai_T0 ai_N 106 ii_m_later_b1_b1 := ai_case he (fun _ _ _ _ => trivial) ik_m_later_b1_b1 trivial

def ii_m_image_b1_b1 : ai_I := (([.inr (fr 67), .inl (0, 4294967295)], [(274469, .inl (2147483649, 2147483649)), (286721, .inl (2147483649, 2147483652))]), ((some (.inl (0, 4294967295)), []), (([], [112, 113]), 1)))
set_option maxRecDepth 100000 in
theorem ik_m_image_b1_b1 : ai_inst (ai_T0, ai_cts [], ai_mem ai_inl, ii_m_image_b1_b1.2.2.1, ([], [112, 113]), ai_hds []) 1000000 112 [(26, 1)] ii_m_image_b1_b1 = true := by decide +kernel
theorem ic_m_image_b1_b1 {l : Launch} {X : fx_X} {Y : fx_Y} {B : fx_B} (he : ai_env X B) : ai_con l X Y B ai_T0 ai_N 112 ii_m_image_b1_b1 := ai_case he (fun _ _ _ _ => trivial) ik_m_image_b1_b1 trivial

def ii_m_back_b1_b1 : ai_I := (([.inr (fr 67), .inl (0, 4294967295)], [(274469, .inl (2147483649, 2147483649)), (286721, .inl (2147483649, 2147483652))]), ((some (.inl (0, 4294967295)), []), (([274485, 274486], [96]), 1)))
set_option maxRecDepth 100000 in
theorem ik_m_back_b1_b1 : ai_inst (ai_T0, ai_cts [], ai_mem ai_inl, ii_m_back_b1_b1.2.2.1, ([274485, 274486], [96]), ai_hds []) 1000000 114 [(40, 1)] ii_m_back_b1_b1 = true := by decide +kernel
theorem ic_m_back_b1_b1 {l : Launch} {X : fx_X} {Y : fx_Y} {B : fx_B} (he : ai_env X B) : ai_con l X Y B ai_T0 ai_N 114 ii_m_back_b1_b1 := ai_case he (fun _ _ _ _ => trivial) ik_m_back_b1_b1 trivial

def ii_m_about_b1_b1 : ai_I := (([.inr (fr 67), .inl (0, 4294967295)], [(274469, .inl (2147483649, 2147483649)), (286721, .inl (2147483649, 2147483652))]), ((some (.inl (0, 4294967295)), []), (([], []), 1)))
set_option maxRecDepth 100000 in
theorem ik_m_about_b1_b1 : ai_inst (ai_T0, ai_cts [], ai_mem ai_inl, ii_m_about_b1_b1.2.2.1, ([], []), ai_hds []) 1000000 116 [] ii_m_about_b1_b1 = true := by decide +kernel
theorem ic_m_about_b1_b1 {l : Launch} {X : fx_X} {Y : fx_Y} {B : fx_B} (he : ai_env X B) : ai_con l X Y B ai_T0 ai_N 116 ii_m_about_b1_b1 := ai_case he (fun _ _ _ _ => trivial) ik_m_about_b1_b1 trivial

def ii_m_isKept : ai_I := (([.inr (fl 0)], []), ((some (.inl (2147483648, 2147483649)), []), (([], []), 0)))
set_option maxRecDepth 100000 in
theorem ik_m_isKept : ai_inst (ai_T0, ai_cts [], ai_mem ai_inl, ii_m_isKept.2.2.1, ([], []), ai_hds []) 1000000 215 [] ii_m_isKept = true := by decide +kernel
theorem ic_m_isKept {l : Launch} {X : fx_X} {Y : fx_Y} {B : fx_B} (he : ai_env X B) : ai_con l X Y B ai_T0 ai_N 215 ii_m_isKept := ai_case he (fun _ _ _ _ => trivial) ik_m_isKept trivial
