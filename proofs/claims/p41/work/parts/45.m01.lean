def ii_m_isKept : ai_I := (([.inr (fl 0)], []), ((some (.inl (2147483648, 2147483649)), []), (([], []), 0)))
set_option maxRecDepth 100000 in
theorem ik_m_isKept : ai_inst (ai_T0, ai_cts [], ai_mem ai_inl, ii_m_isKept.2.2.1, ([], []), ai_hds []) 1000000 215 [] ii_m_isKept = true := by decide +kernel
theorem ic_m_isKept {l : Launch} {X : fx_X} {Y : fx_Y} {B : fx_B} (he : ai_env X B) : ai_con l X Y B ai_T0 ai_N 215 ii_m_isKept := ai_case he (fun _ _ _ _ => trivial) ik_m_isKept trivial

def ii_m_isSign : ai_I := (([.inl (2147483648, 2147483903)], []), ((some (.inl (2147483648, 2147483649)), []), (([], []), 0)))
set_option maxRecDepth 100000 in
theorem ik_m_isSign : ai_inst (ai_T0, ai_cts [], ai_mem ai_inl, ii_m_isSign.2.2.1, ([], []), ai_hds []) 1000000 217 [] ii_m_isSign = true := by decide +kernel
theorem ic_m_isSign {l : Launch} {X : fx_X} {Y : fx_Y} {B : fx_B} (he : ai_env X B) : ai_con l X Y B ai_T0 ai_N 217 ii_m_isSign := ai_case he (fun _ _ _ _ => trivial) ik_m_isSign trivial

def ii_m_goOn : ai_I := (([.inr (fr 67)], [(274439, .inl (2147483648, 2147485248))]), ((none, [(274439, .inl (2147483648, 2147485248))]), (([274438, 274439, 274440, 274441, 274442], []), 1)))
set_option maxRecDepth 100000 in
theorem ik_m_goOn : ai_inst (ai_T0, ai_cts [(215, ii_m_isKept), (217, ii_m_isSign)], ai_mem ai_inl, ii_m_goOn.2.2.1, ([274438, 274439, 274440, 274441, 274442], []), ai_hds [(8, [((1, (274438, 0)), ([(0, (.inr (fr 67), (0, 0)))], [(274438, (.inl (2147483648, 2147485248), (0, 0))), (274439, (.inl (2147483648, 2147485248), (0, 0)))]))]), (119, [((1, (274439, 0)), ([(0, (.inr (fr 67), (0, 0))), (1, (.inl (2147483745, 2147483770), (0, 0)))], [(274433, (.inr (fr 69), (0, 0))), (274435, (.inl (2147483649, 2147485248), (0, 0))), (274438, (.inl (2147483648, 2147485247), (0, 0))), (274439, (.inl (2147483649, 2147485248), (0, 0)))]))]), (156, [((0, (2, 0)), ([(0, (.inr (fr 67), (0, 0))), (1, (.inl (2147483745, 2147483770), (0, 0))), (2, (.inl (2147483648, 2147485248), (0, 0)))], [(274433, (.inr (fr 69), (0, 0))), (274435, (.inl (2147483649, 2147485248), (0, 0))), (274438, (.inl (2147483648, 2147485247), (0, 0))), (274439, (.inl (2147483649, 2147485248), (0, 0)))]))]), (259, [((1, (274439, 0)), ([(0, (.inr (fr 67), (0, 0))), (1, (.inl (2147483696, 2147483705), (0, 0)))], [(274433, (.inr (fr 69), (0, 0))), (274435, (.inl (2147483649, 2147485248), (0, 0))), (274438, (.inl (2147483648, 2147485247), (0, 0))), (274439, (.inl (2147483648, 2147485248), (0, 0)))]))])]) 1000000 123 [(8, 0), (119, 0), (156, 0), (259, 0)] ii_m_goOn = true := by decide +kernel
theorem ic_m_goOn {l : Launch} {X : fx_X} {Y : fx_Y} {B : fx_B} (he : ai_env X B) : ai_con l X Y B ai_T0 ai_N 123 ii_m_goOn := ai_case he (fun _ _ _ _ => trivial) ik_m_goOn ⟨ic_m_isKept he, ic_m_isSign he, trivial⟩
