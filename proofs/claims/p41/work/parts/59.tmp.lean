theorem ic_h_readRule_0_r0 {l : Launch} {X : fx_X} {Y : fx_Y} {B : fx_B} (he : ai_env X B) : ai_con l X Y B ai_T0 mo_PQ 224 ii_h_readRule_0_r0 := by sorry
theorem ic_h_readRule_1_r0 {l : Launch} {X : fx_X} {Y : fx_Y} {B : fx_B} (he : ai_env X B) : ai_con l X Y B ai_T0 mo_PQ 224 ii_h_readRule_1_r0 := by sorry
theorem ic_h_readRule_0_r1 {l : Launch} {X : fx_X} {Y : fx_Y} {B : fx_B} (he : ai_env X B) : ai_con l X Y B ai_T0 mo_PQ 224 ii_h_readRule_0_r1 := by sorry
theorem ic_h_readRule_1_r1 {l : Launch} {X : fx_X} {Y : fx_Y} {B : fx_B} (he : ai_env X B) : ai_con l X Y B ai_T0 mo_PQ 224 ii_h_readRule_1_r1 := by sorry
