abbrev se_m : ai_M := ([274436, 274437, 274438, 274439, 274440, 274441, 274442, 274471, 274472, 274473, 274474], [70, 71, 72, 73, 74, 75, 76, 77, 78, 79, 80, 81, 82, 83, 84, 85, 86, 87, 88, 89, 90, 91, 92, 93, 94])
noncomputable def se_s0 (h : fx_H) : Nat := min (gv h 294912) 1 + gv h 299008 + gv h 303104 + gv h 352256 + gv h 352257 + gv h 356352 + gv h 360448
def se_I0 (h0 h : fx_H) : Prop := ai_inv ai_T0 h ∧ mo_PQ h ∧ gv h 274470 = 0 ∧ gv h 274439 ≤ 1600 ∧ 1 ≤ gv h 286721 ∧ gv h 294912 ≤ se_s0 h ∧ ai_fr se_m h0 h
def se_P0 (h0 h : fx_H) (v : Option fx_V) (h1 : fx_H) : Prop := v = none ∧ se_I0 h0 h1 ∧ (gv h1 274436 ≠ 0 ∨ se_s0 h + 1 ≤ se_s0 h1)
theorem se_top0 {h : fx_H} (hI : ai_inv ai_T0 h) : gv h 299008 ≤ 4 ∧ gv h 303104 ≤ 7 ∧ gv h 352256 ≤ 1 ∧ gv h 352257 ≤ 1 ∧ gv h 356352 ≤ 1 ∧ gv h 360448 ≤ 1 ∧ gv h 286721 ≤ 4 ∧ gv h 294912 ≤ 17 := ⟨(gv_nat (lo := 0) (hi := 4) hI rfl (by decide)).2.2, (gv_nat (lo := 0) (hi := 7) hI rfl (by decide)).2.2, (gv_nat (lo := 0) (hi := 1) hI rfl (by decide)).2.2, (gv_nat (lo := 0) (hi := 1) hI rfl (by decide)).2.2, (gv_nat (lo := 0) (hi := 1) hI rfl (by decide)).2.2, (gv_nat (lo := 0) (hi := 1) hI rfl (by decide)).2.2, (gv_nat (lo := 0) (hi := 4) hI rfl (by decide)).2.2, (gv_nat (lo := 0) (hi := 17) hI rfl (by decide)).2.2⟩
noncomputable def se_s1 (h : fx_H) : Nat := min (gv h 294913) 1 + gv h 299009 + gv h 303105 + gv h 352258 + gv h 352259 + gv h 356353 + gv h 360449
def se_I1 (h0 h : fx_H) : Prop := ai_inv ai_T0 h ∧ mo_PQ h ∧ gv h 274470 = 1 ∧ gv h 274439 ≤ 1600 ∧ 1 ≤ gv h 286721 ∧ gv h 294913 ≤ se_s1 h ∧ ai_fr se_m h0 h
def se_P1 (h0 h : fx_H) (v : Option fx_V) (h1 : fx_H) : Prop := v = none ∧ se_I1 h0 h1 ∧ (gv h1 274436 ≠ 0 ∨ se_s1 h + 1 ≤ se_s1 h1)
theorem se_top1 {h : fx_H} (hI : ai_inv ai_T0 h) : gv h 299009 ≤ 4 ∧ gv h 303105 ≤ 7 ∧ gv h 352258 ≤ 1 ∧ gv h 352259 ≤ 1 ∧ gv h 356353 ≤ 1 ∧ gv h 360449 ≤ 1 ∧ gv h 286721 ≤ 4 ∧ gv h 294913 ≤ 17 := ⟨(gv_nat (lo := 0) (hi := 4) hI rfl (by decide)).2.2, (gv_nat (lo := 0) (hi := 7) hI rfl (by decide)).2.2, (gv_nat (lo := 0) (hi := 1) hI rfl (by decide)).2.2, (gv_nat (lo := 0) (hi := 1) hI rfl (by decide)).2.2, (gv_nat (lo := 0) (hi := 1) hI rfl (by decide)).2.2, (gv_nat (lo := 0) (hi := 1) hI rfl (by decide)).2.2, (gv_nat (lo := 0) (hi := 4) hI rfl (by decide)).2.2, (gv_nat (lo := 0) (hi := 17) hI rfl (by decide)).2.2⟩
section SEN
variable {l : Launch} {X : fx_X} {Y : fx_Y} {B : fx_B}
theorem rs_m_readLine_r0_r0_low (he : ai_env X B) {h0 h : fx_H} (hS : se_I0 h0 h) (hg : gv h 274436 = 0) (hs16 : se_s0 h ≤ 16) (ht1 : 0 ≤ gv h 274440) (ht2 : gv h 274440 ≤ 2) : rx_met l X Y B 125 13 [fr 67] h (se_P0 h0 h) := by
  obtain ⟨hI, hP, g1, g2, g3, g4, g5⟩ := hS
  obtain ⟨t1, t2, t3, t4, t5, t6, t7, t8⟩ := se_top0 hI
  refine rx_met_mono (rx_met_deep (by decide : 2 ≤ 13) (ic_m_readLine_r0_r0_low he [fr 67] h ⟨rfl, trivial⟩ (fun q hq => ?_) hI hP)) (fun v h1 q => ?_)
  · rcases List.mem_cons.mp hq with rfl | hq
    · exact mo_iv 0 0 hI rfl (by omega) (by omega) (by decide)
    · rcases List.mem_cons.mp hq with rfl | hq
      · exact mo_iv 0 1600 hI rfl (by omega) (by omega) (by decide)
      · rcases List.mem_cons.mp hq with rfl | hq
        · exact mo_iv 0 2 hI rfl (by omega) (by omega) (by decide)
        · rcases List.mem_cons.mp hq with rfl | hq
          · exact mo_iv 0 0 hI rfl (by omega) (by omega) (by decide)
          · rcases List.mem_cons.mp hq with rfl | hq
            · exact mo_iv 1 4 hI rfl (by omega) (by omega) (by decide)
            · rcases List.mem_cons.mp hq with rfl | hq
              · exact mo_iv 0 16 hI rfl (by omega) (by omega) (by decide)
              · cases hq
  · obtain ⟨⟨q1, q2, q3, q4, q5⟩, q6⟩ := q
    cases v with
    | some v => exact False.elim q1
    | none =>
      have p0 := at_num (p := 274436) (lo := 1) (hi := 2) (q2 _ (List.mem_of_getElem? (i := 0) rfl)) (by decide)
      have p1 := at_num (p := 274439) (lo := 0) (hi := 1600) (q2 _ (List.mem_of_getElem? (i := 1) rfl)) (by decide)
      have p2 := at_num (p := 286721) (lo := 1) (hi := 4) (q2 _ (List.mem_of_getElem? (i := 2) rfl)) (by decide)
      have s_rb : gv h1 274470 = gv h 274470 := gv_fr (q4 _ rfl rfl)
      have s_ln : gv h1 294912 = gv h 294912 := gv_fr (q4 _ rfl rfl)
      have s_D : gv h1 299008 = gv h 299008 := gv_fr (q4 _ rfl rfl)
      have s_M : gv h1 303104 = gv h 303104 := gv_fr (q4 _ rfl rfl)
      have s_A : gv h1 352256 = gv h 352256 := gv_fr (q4 _ rfl rfl)
      have s_B : gv h1 352257 = gv h 352257 := gv_fr (q4 _ rfl rfl)
      have s_T : gv h1 356352 = gv h 356352 := gv_fr (q4 _ rfl rfl)
      have s_W : gv h1 360448 = gv h 360448 := gv_fr (q4 _ rfl rfl)
      have fin : (gv h1 274436 ≠ 0 ∨ se_s0 h + 1 ≤ se_s0 h1) ∧ gv h1 294912 ≤ se_s0 h1 := by
        unfold se_s0 at g4 ⊢
        omega
      exact ⟨rfl, ⟨q3, q5, by omega, by omega, by omega, fin.2, ai_fr_trans g5 (ai_fr_of q4 (by decide))⟩, fin.1⟩
theorem rs_m_readLine_r0_r0_high (he : ai_env X B) {h0 h : fx_H} (hS : se_I0 h0 h) (hg : gv h 274436 = 0) (hs16 : se_s0 h ≤ 16) (ht1 : 4 ≤ gv h 274440) (ht2 : gv h 274440 ≤ 5) : rx_met l X Y B 125 13 [fr 67] h (se_P0 h0 h) := by
  obtain ⟨hI, hP, g1, g2, g3, g4, g5⟩ := hS
  obtain ⟨t1, t2, t3, t4, t5, t6, t7, t8⟩ := se_top0 hI
  refine rx_met_mono (rx_met_deep (by decide : 2 ≤ 13) (ic_m_readLine_r0_r0_high he [fr 67] h ⟨rfl, trivial⟩ (fun q hq => ?_) hI hP)) (fun v h1 q => ?_)
  · rcases List.mem_cons.mp hq with rfl | hq
    · exact mo_iv 0 0 hI rfl (by omega) (by omega) (by decide)
    · rcases List.mem_cons.mp hq with rfl | hq
      · exact mo_iv 0 1600 hI rfl (by omega) (by omega) (by decide)
      · rcases List.mem_cons.mp hq with rfl | hq
        · exact mo_iv 4 5 hI rfl (by omega) (by omega) (by decide)
        · rcases List.mem_cons.mp hq with rfl | hq
          · exact mo_iv 0 0 hI rfl (by omega) (by omega) (by decide)
          · rcases List.mem_cons.mp hq with rfl | hq
            · exact mo_iv 1 4 hI rfl (by omega) (by omega) (by decide)
            · rcases List.mem_cons.mp hq with rfl | hq
              · exact mo_iv 0 16 hI rfl (by omega) (by omega) (by decide)
              · cases hq
  · obtain ⟨⟨q1, q2, q3, q4, q5⟩, q6⟩ := q
    cases v with
    | some v => exact False.elim q1
    | none =>
      have p0 := at_num (p := 274436) (lo := 2) (hi := 2) (q2 _ (List.mem_of_getElem? (i := 0) rfl)) (by decide)
      have p1 := at_num (p := 274439) (lo := 0) (hi := 1600) (q2 _ (List.mem_of_getElem? (i := 1) rfl)) (by decide)
      have p2 := at_num (p := 286721) (lo := 1) (hi := 4) (q2 _ (List.mem_of_getElem? (i := 2) rfl)) (by decide)
      have s_rb : gv h1 274470 = gv h 274470 := gv_fr (q4 _ rfl rfl)
      have s_ln : gv h1 294912 = gv h 294912 := gv_fr (q4 _ rfl rfl)
      have s_D : gv h1 299008 = gv h 299008 := gv_fr (q4 _ rfl rfl)
      have s_M : gv h1 303104 = gv h 303104 := gv_fr (q4 _ rfl rfl)
      have s_A : gv h1 352256 = gv h 352256 := gv_fr (q4 _ rfl rfl)
      have s_B : gv h1 352257 = gv h 352257 := gv_fr (q4 _ rfl rfl)
      have s_T : gv h1 356352 = gv h 356352 := gv_fr (q4 _ rfl rfl)
      have s_W : gv h1 360448 = gv h 360448 := gv_fr (q4 _ rfl rfl)
      have fin : (gv h1 274436 ≠ 0 ∨ se_s0 h + 1 ≤ se_s0 h1) ∧ gv h1 294912 ≤ se_s0 h1 := by
        unfold se_s0 at g4 ⊢
        omega
      exact ⟨rfl, ⟨q3, q5, by omega, by omega, by omega, fin.2, ai_fr_trans g5 (ai_fr_of q4 (by decide))⟩, fin.1⟩
theorem rs_m_readLine_r0_r0_other (he : ai_env X B) {h0 h : fx_H} (hS : se_I0 h0 h) (hg : gv h 274436 = 0) (hs16 : se_s0 h ≤ 16) (ht1 : 3 ≤ gv h 274440) (ht2 : gv h 274440 ≤ 3) {nm : Nat} (hn1 : ai_pl h 274442 = some (fl nm)) (hn2 : ai_lo 1 nm) : rx_met l X Y B 125 13 [fr 67] h (se_P0 h0 h) := by
  obtain ⟨hI, hP, g1, g2, g3, g4, g5⟩ := hS
  obtain ⟨t1, t2, t3, t4, t5, t6, t7, t8⟩ := se_top0 hI
  refine rx_met_mono (rx_met_deep (by decide : 2 ≤ 13) (ic_m_readLine_r0_r0_other he [fr 67] h ⟨rfl, trivial⟩ (fun q hq => ?_) hI hP)) (fun v h1 q => ?_)
  · rcases List.mem_cons.mp hq with rfl | hq
    · exact mo_iv 0 0 hI rfl (by omega) (by omega) (by decide)
    · rcases List.mem_cons.mp hq with rfl | hq
      · exact mo_iv 0 1600 hI rfl (by omega) (by omega) (by decide)
      · rcases List.mem_cons.mp hq with rfl | hq
        · exact mo_iv 3 3 hI rfl (by omega) (by omega) (by decide)
        · rcases List.mem_cons.mp hq with rfl | hq
          · exact ⟨_, hn1, nm, rfl, hn2⟩
          · rcases List.mem_cons.mp hq with rfl | hq
            · exact mo_iv 0 0 hI rfl (by omega) (by omega) (by decide)
            · rcases List.mem_cons.mp hq with rfl | hq
              · exact mo_iv 1 4 hI rfl (by omega) (by omega) (by decide)
              · rcases List.mem_cons.mp hq with rfl | hq
                · exact mo_iv 0 16 hI rfl (by omega) (by omega) (by decide)
                · cases hq
  · obtain ⟨⟨q1, q2, q3, q4, q5⟩, q6⟩ := q
    cases v with
    | some v => exact False.elim q1
    | none =>
      have p0 := at_num (p := 274436) (lo := 2) (hi := 2) (q2 _ (List.mem_of_getElem? (i := 0) rfl)) (by decide)
      have p1 := at_num (p := 274439) (lo := 0) (hi := 1600) (q2 _ (List.mem_of_getElem? (i := 1) rfl)) (by decide)
      have p2 := at_num (p := 286721) (lo := 1) (hi := 4) (q2 _ (List.mem_of_getElem? (i := 2) rfl)) (by decide)
      have s_rb : gv h1 274470 = gv h 274470 := gv_fr (q4 _ rfl rfl)
      have s_ln : gv h1 294912 = gv h 294912 := gv_fr (q4 _ rfl rfl)
      have s_D : gv h1 299008 = gv h 299008 := gv_fr (q4 _ rfl rfl)
      have s_M : gv h1 303104 = gv h 303104 := gv_fr (q4 _ rfl rfl)
      have s_A : gv h1 352256 = gv h 352256 := gv_fr (q4 _ rfl rfl)
      have s_B : gv h1 352257 = gv h 352257 := gv_fr (q4 _ rfl rfl)
      have s_T : gv h1 356352 = gv h 356352 := gv_fr (q4 _ rfl rfl)
      have s_W : gv h1 360448 = gv h 360448 := gv_fr (q4 _ rfl rfl)
      have fin : (gv h1 274436 ≠ 0 ∨ se_s0 h + 1 ≤ se_s0 h1) ∧ gv h1 294912 ≤ se_s0 h1 := by
        unfold se_s0 at g4 ⊢
        omega
      exact ⟨rfl, ⟨q3, q5, by omega, by omega, by omega, fin.2, ai_fr_trans g5 (ai_fr_of q4 (by decide))⟩, fin.1⟩
theorem rs_m_readLine_r0_r0_hall0 (he : ai_env X B) {h0 h : fx_H} (hS : se_I0 h0 h) (hg : gv h 274436 = 0) (hs16 : se_s0 h ≤ 16) (ht1 : 3 ≤ gv h 274440) (ht2 : gv h 274440 ≤ 3) {nm : Nat} (hn1 : ai_pl h 274442 = some (fl nm)) (hn2 : ai_lo 1751215214 nm) (kl : gv h 294912 = 0) : rx_met l X Y B 125 13 [fr 67] h (se_P0 h0 h) := by
  obtain ⟨hI, hP, g1, g2, g3, g4, g5⟩ := hS
  obtain ⟨t1, t2, t3, t4, t5, t6, t7, t8⟩ := se_top0 hI
  refine rx_met_mono (rx_met_deep (by decide : 4 ≤ 13) (ic_m_readLine_r0_r0_hall0 he [fr 67] h ⟨rfl, trivial⟩ (fun q hq => ?_) hI hP)) (fun v h1 q => ?_)
  · rcases List.mem_cons.mp hq with rfl | hq
    · exact mo_iv 0 0 hI rfl (by omega) (by omega) (by decide)
    · rcases List.mem_cons.mp hq with rfl | hq
      · exact mo_iv 0 1600 hI rfl (by omega) (by omega) (by decide)
      · rcases List.mem_cons.mp hq with rfl | hq
        · exact mo_iv 3 3 hI rfl (by omega) (by omega) (by decide)
        · rcases List.mem_cons.mp hq with rfl | hq
          · exact ⟨_, hn1, nm, rfl, hn2⟩
          · rcases List.mem_cons.mp hq with rfl | hq
            · exact mo_iv 0 0 hI rfl (by omega) (by omega) (by decide)
            · rcases List.mem_cons.mp hq with rfl | hq
              · exact mo_iv 1 4 hI rfl (by omega) (by omega) (by decide)
              · rcases List.mem_cons.mp hq with rfl | hq
                · exact mo_iv 0 0 hI rfl (by omega) (by omega) (by decide)
                · cases hq
  · obtain ⟨⟨q1, q2, q3, q4, q5⟩, q6⟩ := q
    cases v with
    | some v => exact False.elim q1
    | none =>
      have p0 := at_num (p := 274439) (lo := 0) (hi := 1600) (q2 _ (List.mem_of_getElem? (i := 0) rfl)) (by decide)
      have p1 := at_num (p := 286721) (lo := 1) (hi := 4) (q2 _ (List.mem_of_getElem? (i := 1) rfl)) (by decide)
      have p2 := at_num (p := 294912) (lo := 1) (hi := 1) (q2 _ (List.mem_of_getElem? (i := 2) rfl)) (by decide)
      have s_rb : gv h1 274470 = gv h 274470 := gv_fr (q4 _ rfl rfl)
      have s_D : gv h1 299008 = gv h 299008 := gv_fr (q4 _ rfl rfl)
      have s_M : gv h1 303104 = gv h 303104 := gv_fr (q4 _ rfl rfl)
      have s_A : gv h1 352256 = gv h 352256 := gv_fr (q4 _ rfl rfl)
      have s_B : gv h1 352257 = gv h 352257 := gv_fr (q4 _ rfl rfl)
      have s_T : gv h1 356352 = gv h 356352 := gv_fr (q4 _ rfl rfl)
      have s_W : gv h1 360448 = gv h 360448 := gv_fr (q4 _ rfl rfl)
      have hl := q6 (294912, 2147483649) List.mem_cons_self
      unfold ai_gr at hl
      simp only at hl
      rw [rb_small (x := gv h 294912) (by omega), rb_small (x := gv h1 294912) (by omega)] at hl
      have fin : (gv h1 274436 ≠ 0 ∨ se_s0 h + 1 ≤ se_s0 h1) ∧ gv h1 294912 ≤ se_s0 h1 := by
        unfold se_s0 at g4 ⊢
        omega
      exact ⟨rfl, ⟨q3, q5, by omega, by omega, by omega, fin.2, ai_fr_trans g5 (ai_fr_of q4 (by decide))⟩, fin.1⟩
theorem rs_m_readLine_r0_r0_hall1 (he : ai_env X B) {h0 h : fx_H} (hS : se_I0 h0 h) (hg : gv h 274436 = 0) (hs16 : se_s0 h ≤ 16) (ht1 : 3 ≤ gv h 274440) (ht2 : gv h 274440 ≤ 3) {nm : Nat} (hn1 : ai_pl h 274442 = some (fl nm)) (hn2 : ai_lo 1751215214 nm) (kl : 1 ≤ gv h 294912) : rx_met l X Y B 125 13 [fr 67] h (se_P0 h0 h) := by
  obtain ⟨hI, hP, g1, g2, g3, g4, g5⟩ := hS
  obtain ⟨t1, t2, t3, t4, t5, t6, t7, t8⟩ := se_top0 hI
  refine rx_met_mono (rx_met_deep (by decide : 2 ≤ 13) (ic_m_readLine_r0_r0_hall1 he [fr 67] h ⟨rfl, trivial⟩ (fun q hq => ?_) hI hP)) (fun v h1 q => ?_)
  · rcases List.mem_cons.mp hq with rfl | hq
    · exact mo_iv 0 0 hI rfl (by omega) (by omega) (by decide)
    · rcases List.mem_cons.mp hq with rfl | hq
      · exact mo_iv 0 1600 hI rfl (by omega) (by omega) (by decide)
      · rcases List.mem_cons.mp hq with rfl | hq
        · exact mo_iv 3 3 hI rfl (by omega) (by omega) (by decide)
        · rcases List.mem_cons.mp hq with rfl | hq
          · exact ⟨_, hn1, nm, rfl, hn2⟩
          · rcases List.mem_cons.mp hq with rfl | hq
            · exact mo_iv 0 0 hI rfl (by omega) (by omega) (by decide)
            · rcases List.mem_cons.mp hq with rfl | hq
              · exact mo_iv 1 4 hI rfl (by omega) (by omega) (by decide)
              · rcases List.mem_cons.mp hq with rfl | hq
                · exact mo_iv 1 16 hI rfl (by omega) (by omega) (by decide)
                · cases hq
  · obtain ⟨⟨q1, q2, q3, q4, q5⟩, q6⟩ := q
    cases v with
    | some v => exact False.elim q1
    | none =>
      have p0 := at_num (p := 274436) (lo := 2) (hi := 2) (q2 _ (List.mem_of_getElem? (i := 0) rfl)) (by decide)
      have p1 := at_num (p := 274439) (lo := 0) (hi := 1600) (q2 _ (List.mem_of_getElem? (i := 1) rfl)) (by decide)
      have p2 := at_num (p := 286721) (lo := 1) (hi := 4) (q2 _ (List.mem_of_getElem? (i := 2) rfl)) (by decide)
      have s_rb : gv h1 274470 = gv h 274470 := gv_fr (q4 _ rfl rfl)
      have s_ln : gv h1 294912 = gv h 294912 := gv_fr (q4 _ rfl rfl)
      have s_D : gv h1 299008 = gv h 299008 := gv_fr (q4 _ rfl rfl)
      have s_M : gv h1 303104 = gv h 303104 := gv_fr (q4 _ rfl rfl)
      have s_A : gv h1 352256 = gv h 352256 := gv_fr (q4 _ rfl rfl)
      have s_B : gv h1 352257 = gv h 352257 := gv_fr (q4 _ rfl rfl)
      have s_T : gv h1 356352 = gv h 356352 := gv_fr (q4 _ rfl rfl)
      have s_W : gv h1 360448 = gv h 360448 := gv_fr (q4 _ rfl rfl)
      have fin : (gv h1 274436 ≠ 0 ∨ se_s0 h + 1 ≤ se_s0 h1) ∧ gv h1 294912 ≤ se_s0 h1 := by
        unfold se_s0 at g4 ⊢
        omega
      exact ⟨rfl, ⟨q3, q5, by omega, by omega, by omega, fin.2, ai_fr_trans g5 (ai_fr_of q4 (by decide))⟩, fin.1⟩
theorem rs_m_readLine_r0_r0_district0 (he : ai_env X B) {h0 h : fx_H} (hS : se_I0 h0 h) (hg : gv h 274436 = 0) (hs16 : se_s0 h ≤ 16) (ht1 : 3 ≤ gv h 274440) (ht2 : gv h 274440 ≤ 3) {nm : Nat} (hn1 : ai_pl h 274442 = some (fl nm)) (hn2 : ai_lo 7235441220320322422 nm) (k299008 : gv h 299008 = 0) : rx_met l X Y B 125 13 [fr 67] h (se_P0 h0 h) := by
  obtain ⟨hI, hP, g1, g2, g3, g4, g5⟩ := hS
  obtain ⟨t1, t2, t3, t4, t5, t6, t7, t8⟩ := se_top0 hI
  refine rx_met_mono (rx_met_deep (by decide : 5 ≤ 13) (ic_m_readLine_r0_r0_district0 he [fr 67] h ⟨rfl, trivial⟩ (fun q hq => ?_) hI hP)) (fun v h1 q => ?_)
  · rcases List.mem_cons.mp hq with rfl | hq
    · exact mo_iv 0 0 hI rfl (by omega) (by omega) (by decide)
    · rcases List.mem_cons.mp hq with rfl | hq
      · exact mo_iv 0 1600 hI rfl (by omega) (by omega) (by decide)
      · rcases List.mem_cons.mp hq with rfl | hq
        · exact mo_iv 3 3 hI rfl (by omega) (by omega) (by decide)
        · rcases List.mem_cons.mp hq with rfl | hq
          · exact ⟨_, hn1, nm, rfl, hn2⟩
          · rcases List.mem_cons.mp hq with rfl | hq
            · exact mo_iv 0 0 hI rfl (by omega) (by omega) (by decide)
            · rcases List.mem_cons.mp hq with rfl | hq
              · exact mo_iv 1 4 hI rfl (by omega) (by omega) (by decide)
              · rcases List.mem_cons.mp hq with rfl | hq
                · exact mo_iv 0 16 hI rfl (by omega) (by omega) (by decide)
                · rcases List.mem_cons.mp hq with rfl | hq
                  · exact mo_iv 0 0 hI rfl (by omega) (by omega) (by decide)
                  · cases hq
  · obtain ⟨⟨q1, q2, q3, q4, q5⟩, q6⟩ := q
    cases v with
    | some v => exact False.elim q1
    | none =>
      have p0 := at_num (p := 274439) (lo := 0) (hi := 1600) (q2 _ (List.mem_of_getElem? (i := 0) rfl)) (by decide)
      have p1 := at_num (p := 286721) (lo := 1) (hi := 4) (q2 _ (List.mem_of_getElem? (i := 1) rfl)) (by decide)
      have p2 := at_num (p := 294912) (lo := 1) (hi := 17) (q2 _ (List.mem_of_getElem? (i := 2) rfl)) (by decide)
      have p3 := at_num (p := 299008) (lo := 1) (hi := 1) (q2 _ (List.mem_of_getElem? (i := 3) rfl)) (by decide)
      have s_rb : gv h1 274470 = gv h 274470 := gv_fr (q4 _ rfl rfl)
      have s_M : gv h1 303104 = gv h 303104 := gv_fr (q4 _ rfl rfl)
      have s_A : gv h1 352256 = gv h 352256 := gv_fr (q4 _ rfl rfl)
      have s_B : gv h1 352257 = gv h 352257 := gv_fr (q4 _ rfl rfl)
      have s_T : gv h1 356352 = gv h 356352 := gv_fr (q4 _ rfl rfl)
      have s_W : gv h1 360448 = gv h 360448 := gv_fr (q4 _ rfl rfl)
      have hl := q6 (294912, 2147483649) List.mem_cons_self
      unfold ai_gr at hl
      simp only at hl
      rw [rb_small (x := gv h 294912) (by omega), rb_small (x := gv h1 294912) (by omega)] at hl
      have fin : (gv h1 274436 ≠ 0 ∨ se_s0 h + 1 ≤ se_s0 h1) ∧ gv h1 294912 ≤ se_s0 h1 := by
        unfold se_s0 at g4 ⊢
        omega
      exact ⟨rfl, ⟨q3, q5, by omega, by omega, by omega, fin.2, ai_fr_trans g5 (ai_fr_of q4 (by decide))⟩, fin.1⟩
theorem rs_m_readLine_r0_r0_district1 (he : ai_env X B) {h0 h : fx_H} (hS : se_I0 h0 h) (hg : gv h 274436 = 0) (hs16 : se_s0 h ≤ 16) (ht1 : 3 ≤ gv h 274440) (ht2 : gv h 274440 ≤ 3) {nm : Nat} (hn1 : ai_pl h 274442 = some (fl nm)) (hn2 : ai_lo 7235441220320322422 nm) (k299008 : gv h 299008 = 1) : rx_met l X Y B 125 13 [fr 67] h (se_P0 h0 h) := by
  obtain ⟨hI, hP, g1, g2, g3, g4, g5⟩ := hS
  obtain ⟨t1, t2, t3, t4, t5, t6, t7, t8⟩ := se_top0 hI
  refine rx_met_mono (rx_met_deep (by decide : 5 ≤ 13) (ic_m_readLine_r0_r0_district1 he [fr 67] h ⟨rfl, trivial⟩ (fun q hq => ?_) hI hP)) (fun v h1 q => ?_)
  · rcases List.mem_cons.mp hq with rfl | hq
    · exact mo_iv 0 0 hI rfl (by omega) (by omega) (by decide)
    · rcases List.mem_cons.mp hq with rfl | hq
      · exact mo_iv 0 1600 hI rfl (by omega) (by omega) (by decide)
      · rcases List.mem_cons.mp hq with rfl | hq
        · exact mo_iv 3 3 hI rfl (by omega) (by omega) (by decide)
        · rcases List.mem_cons.mp hq with rfl | hq
          · exact ⟨_, hn1, nm, rfl, hn2⟩
          · rcases List.mem_cons.mp hq with rfl | hq
            · exact mo_iv 0 0 hI rfl (by omega) (by omega) (by decide)
            · rcases List.mem_cons.mp hq with rfl | hq
              · exact mo_iv 1 4 hI rfl (by omega) (by omega) (by decide)
              · rcases List.mem_cons.mp hq with rfl | hq
                · exact mo_iv 0 16 hI rfl (by omega) (by omega) (by decide)
                · rcases List.mem_cons.mp hq with rfl | hq
                  · exact mo_iv 1 1 hI rfl (by omega) (by omega) (by decide)
                  · cases hq
  · obtain ⟨⟨q1, q2, q3, q4, q5⟩, q6⟩ := q
    cases v with
    | some v => exact False.elim q1
    | none =>
      have p0 := at_num (p := 274439) (lo := 0) (hi := 1600) (q2 _ (List.mem_of_getElem? (i := 0) rfl)) (by decide)
      have p1 := at_num (p := 286721) (lo := 1) (hi := 4) (q2 _ (List.mem_of_getElem? (i := 1) rfl)) (by decide)
      have p2 := at_num (p := 294912) (lo := 1) (hi := 17) (q2 _ (List.mem_of_getElem? (i := 2) rfl)) (by decide)
      have p3 := at_num (p := 299008) (lo := 2) (hi := 2) (q2 _ (List.mem_of_getElem? (i := 3) rfl)) (by decide)
      have s_rb : gv h1 274470 = gv h 274470 := gv_fr (q4 _ rfl rfl)
      have s_M : gv h1 303104 = gv h 303104 := gv_fr (q4 _ rfl rfl)
      have s_A : gv h1 352256 = gv h 352256 := gv_fr (q4 _ rfl rfl)
      have s_B : gv h1 352257 = gv h 352257 := gv_fr (q4 _ rfl rfl)
      have s_T : gv h1 356352 = gv h 356352 := gv_fr (q4 _ rfl rfl)
      have s_W : gv h1 360448 = gv h 360448 := gv_fr (q4 _ rfl rfl)
      have hl := q6 (294912, 2147483649) List.mem_cons_self
      unfold ai_gr at hl
      simp only at hl
      rw [rb_small (x := gv h 294912) (by omega), rb_small (x := gv h1 294912) (by omega)] at hl
      have fin : (gv h1 274436 ≠ 0 ∨ se_s0 h + 1 ≤ se_s0 h1) ∧ gv h1 294912 ≤ se_s0 h1 := by
        unfold se_s0 at g4 ⊢
        omega
      exact ⟨rfl, ⟨q3, q5, by omega, by omega, by omega, fin.2, ai_fr_trans g5 (ai_fr_of q4 (by decide))⟩, fin.1⟩
theorem rs_m_readLine_r0_r0_district2 (he : ai_env X B) {h0 h : fx_H} (hS : se_I0 h0 h) (hg : gv h 274436 = 0) (hs16 : se_s0 h ≤ 16) (ht1 : 3 ≤ gv h 274440) (ht2 : gv h 274440 ≤ 3) {nm : Nat} (hn1 : ai_pl h 274442 = some (fl nm)) (hn2 : ai_lo 7235441220320322422 nm) (k299008 : gv h 299008 = 2) : rx_met l X Y B 125 13 [fr 67] h (se_P0 h0 h) := by
  obtain ⟨hI, hP, g1, g2, g3, g4, g5⟩ := hS
  obtain ⟨t1, t2, t3, t4, t5, t6, t7, t8⟩ := se_top0 hI
  refine rx_met_mono (rx_met_deep (by decide : 5 ≤ 13) (ic_m_readLine_r0_r0_district2 he [fr 67] h ⟨rfl, trivial⟩ (fun q hq => ?_) hI hP)) (fun v h1 q => ?_)
  · rcases List.mem_cons.mp hq with rfl | hq
    · exact mo_iv 0 0 hI rfl (by omega) (by omega) (by decide)
    · rcases List.mem_cons.mp hq with rfl | hq
      · exact mo_iv 0 1600 hI rfl (by omega) (by omega) (by decide)
      · rcases List.mem_cons.mp hq with rfl | hq
        · exact mo_iv 3 3 hI rfl (by omega) (by omega) (by decide)
        · rcases List.mem_cons.mp hq with rfl | hq
          · exact ⟨_, hn1, nm, rfl, hn2⟩
          · rcases List.mem_cons.mp hq with rfl | hq
            · exact mo_iv 0 0 hI rfl (by omega) (by omega) (by decide)
            · rcases List.mem_cons.mp hq with rfl | hq
              · exact mo_iv 1 4 hI rfl (by omega) (by omega) (by decide)
              · rcases List.mem_cons.mp hq with rfl | hq
                · exact mo_iv 0 16 hI rfl (by omega) (by omega) (by decide)
                · rcases List.mem_cons.mp hq with rfl | hq
                  · exact mo_iv 2 2 hI rfl (by omega) (by omega) (by decide)
                  · cases hq
  · obtain ⟨⟨q1, q2, q3, q4, q5⟩, q6⟩ := q
    cases v with
    | some v => exact False.elim q1
    | none =>
      have p0 := at_num (p := 274439) (lo := 0) (hi := 1600) (q2 _ (List.mem_of_getElem? (i := 0) rfl)) (by decide)
      have p1 := at_num (p := 286721) (lo := 1) (hi := 4) (q2 _ (List.mem_of_getElem? (i := 1) rfl)) (by decide)
      have p2 := at_num (p := 294912) (lo := 1) (hi := 17) (q2 _ (List.mem_of_getElem? (i := 2) rfl)) (by decide)
      have p3 := at_num (p := 299008) (lo := 3) (hi := 3) (q2 _ (List.mem_of_getElem? (i := 3) rfl)) (by decide)
      have s_rb : gv h1 274470 = gv h 274470 := gv_fr (q4 _ rfl rfl)
      have s_M : gv h1 303104 = gv h 303104 := gv_fr (q4 _ rfl rfl)
      have s_A : gv h1 352256 = gv h 352256 := gv_fr (q4 _ rfl rfl)
      have s_B : gv h1 352257 = gv h 352257 := gv_fr (q4 _ rfl rfl)
      have s_T : gv h1 356352 = gv h 356352 := gv_fr (q4 _ rfl rfl)
      have s_W : gv h1 360448 = gv h 360448 := gv_fr (q4 _ rfl rfl)
      have hl := q6 (294912, 2147483649) List.mem_cons_self
      unfold ai_gr at hl
      simp only at hl
      rw [rb_small (x := gv h 294912) (by omega), rb_small (x := gv h1 294912) (by omega)] at hl
      have fin : (gv h1 274436 ≠ 0 ∨ se_s0 h + 1 ≤ se_s0 h1) ∧ gv h1 294912 ≤ se_s0 h1 := by
        unfold se_s0 at g4 ⊢
        omega
      exact ⟨rfl, ⟨q3, q5, by omega, by omega, by omega, fin.2, ai_fr_trans g5 (ai_fr_of q4 (by decide))⟩, fin.1⟩
theorem rs_m_readLine_r0_r0_district3 (he : ai_env X B) {h0 h : fx_H} (hS : se_I0 h0 h) (hg : gv h 274436 = 0) (hs16 : se_s0 h ≤ 16) (ht1 : 3 ≤ gv h 274440) (ht2 : gv h 274440 ≤ 3) {nm : Nat} (hn1 : ai_pl h 274442 = some (fl nm)) (hn2 : ai_lo 7235441220320322422 nm) (k299008 : gv h 299008 = 3) : rx_met l X Y B 125 13 [fr 67] h (se_P0 h0 h) := by
  obtain ⟨hI, hP, g1, g2, g3, g4, g5⟩ := hS
  obtain ⟨t1, t2, t3, t4, t5, t6, t7, t8⟩ := se_top0 hI
  refine rx_met_mono (rx_met_deep (by decide : 5 ≤ 13) (ic_m_readLine_r0_r0_district3 he [fr 67] h ⟨rfl, trivial⟩ (fun q hq => ?_) hI hP)) (fun v h1 q => ?_)
  · rcases List.mem_cons.mp hq with rfl | hq
    · exact mo_iv 0 0 hI rfl (by omega) (by omega) (by decide)
    · rcases List.mem_cons.mp hq with rfl | hq
      · exact mo_iv 0 1600 hI rfl (by omega) (by omega) (by decide)
      · rcases List.mem_cons.mp hq with rfl | hq
        · exact mo_iv 3 3 hI rfl (by omega) (by omega) (by decide)
        · rcases List.mem_cons.mp hq with rfl | hq
          · exact ⟨_, hn1, nm, rfl, hn2⟩
          · rcases List.mem_cons.mp hq with rfl | hq
            · exact mo_iv 0 0 hI rfl (by omega) (by omega) (by decide)
            · rcases List.mem_cons.mp hq with rfl | hq
              · exact mo_iv 1 4 hI rfl (by omega) (by omega) (by decide)
              · rcases List.mem_cons.mp hq with rfl | hq
                · exact mo_iv 0 16 hI rfl (by omega) (by omega) (by decide)
                · rcases List.mem_cons.mp hq with rfl | hq
                  · exact mo_iv 3 3 hI rfl (by omega) (by omega) (by decide)
                  · cases hq
  · obtain ⟨⟨q1, q2, q3, q4, q5⟩, q6⟩ := q
    cases v with
    | some v => exact False.elim q1
    | none =>
      have p0 := at_num (p := 274439) (lo := 0) (hi := 1600) (q2 _ (List.mem_of_getElem? (i := 0) rfl)) (by decide)
      have p1 := at_num (p := 286721) (lo := 1) (hi := 4) (q2 _ (List.mem_of_getElem? (i := 1) rfl)) (by decide)
      have p2 := at_num (p := 294912) (lo := 1) (hi := 17) (q2 _ (List.mem_of_getElem? (i := 2) rfl)) (by decide)
      have p3 := at_num (p := 299008) (lo := 4) (hi := 4) (q2 _ (List.mem_of_getElem? (i := 3) rfl)) (by decide)
      have s_rb : gv h1 274470 = gv h 274470 := gv_fr (q4 _ rfl rfl)
      have s_M : gv h1 303104 = gv h 303104 := gv_fr (q4 _ rfl rfl)
      have s_A : gv h1 352256 = gv h 352256 := gv_fr (q4 _ rfl rfl)
      have s_B : gv h1 352257 = gv h 352257 := gv_fr (q4 _ rfl rfl)
      have s_T : gv h1 356352 = gv h 356352 := gv_fr (q4 _ rfl rfl)
      have s_W : gv h1 360448 = gv h 360448 := gv_fr (q4 _ rfl rfl)
      have hl := q6 (294912, 2147483649) List.mem_cons_self
      unfold ai_gr at hl
      simp only at hl
      rw [rb_small (x := gv h 294912) (by omega), rb_small (x := gv h1 294912) (by omega)] at hl
      have fin : (gv h1 274436 ≠ 0 ∨ se_s0 h + 1 ≤ se_s0 h1) ∧ gv h1 294912 ≤ se_s0 h1 := by
        unfold se_s0 at g4 ⊢
        omega
      exact ⟨rfl, ⟨q3, q5, by omega, by omega, by omega, fin.2, ai_fr_trans g5 (ai_fr_of q4 (by decide))⟩, fin.1⟩
theorem rs_m_readLine_r0_r0_district4 (he : ai_env X B) {h0 h : fx_H} (hS : se_I0 h0 h) (hg : gv h 274436 = 0) (hs16 : se_s0 h ≤ 16) (ht1 : 3 ≤ gv h 274440) (ht2 : gv h 274440 ≤ 3) {nm : Nat} (hn1 : ai_pl h 274442 = some (fl nm)) (hn2 : ai_lo 7235441220320322422 nm) (k299008 : gv h 299008 = 4) : rx_met l X Y B 125 13 [fr 67] h (se_P0 h0 h) := by
  obtain ⟨hI, hP, g1, g2, g3, g4, g5⟩ := hS
  obtain ⟨t1, t2, t3, t4, t5, t6, t7, t8⟩ := se_top0 hI
  refine rx_met_mono (rx_met_deep (by decide : 2 ≤ 13) (ic_m_readLine_r0_r0_district4 he [fr 67] h ⟨rfl, trivial⟩ (fun q hq => ?_) hI hP)) (fun v h1 q => ?_)
  · rcases List.mem_cons.mp hq with rfl | hq
    · exact mo_iv 0 0 hI rfl (by omega) (by omega) (by decide)
    · rcases List.mem_cons.mp hq with rfl | hq
      · exact mo_iv 0 1600 hI rfl (by omega) (by omega) (by decide)
      · rcases List.mem_cons.mp hq with rfl | hq
        · exact mo_iv 3 3 hI rfl (by omega) (by omega) (by decide)
        · rcases List.mem_cons.mp hq with rfl | hq
          · exact ⟨_, hn1, nm, rfl, hn2⟩
          · rcases List.mem_cons.mp hq with rfl | hq
            · exact mo_iv 0 0 hI rfl (by omega) (by omega) (by decide)
            · rcases List.mem_cons.mp hq with rfl | hq
              · exact mo_iv 1 4 hI rfl (by omega) (by omega) (by decide)
              · rcases List.mem_cons.mp hq with rfl | hq
                · exact mo_iv 0 16 hI rfl (by omega) (by omega) (by decide)
                · rcases List.mem_cons.mp hq with rfl | hq
                  · exact mo_iv 4 4 hI rfl (by omega) (by omega) (by decide)
                  · cases hq
  · obtain ⟨⟨q1, q2, q3, q4, q5⟩, q6⟩ := q
    cases v with
    | some v => exact False.elim q1
    | none =>
      have p0 := at_num (p := 274436) (lo := 2) (hi := 2) (q2 _ (List.mem_of_getElem? (i := 0) rfl)) (by decide)
      have p1 := at_num (p := 274439) (lo := 0) (hi := 1600) (q2 _ (List.mem_of_getElem? (i := 1) rfl)) (by decide)
      have p2 := at_num (p := 286721) (lo := 1) (hi := 4) (q2 _ (List.mem_of_getElem? (i := 2) rfl)) (by decide)
      have s_rb : gv h1 274470 = gv h 274470 := gv_fr (q4 _ rfl rfl)
      have s_ln : gv h1 294912 = gv h 294912 := gv_fr (q4 _ rfl rfl)
      have s_D : gv h1 299008 = gv h 299008 := gv_fr (q4 _ rfl rfl)
      have s_M : gv h1 303104 = gv h 303104 := gv_fr (q4 _ rfl rfl)
      have s_A : gv h1 352256 = gv h 352256 := gv_fr (q4 _ rfl rfl)
      have s_B : gv h1 352257 = gv h 352257 := gv_fr (q4 _ rfl rfl)
      have s_T : gv h1 356352 = gv h 356352 := gv_fr (q4 _ rfl rfl)
      have s_W : gv h1 360448 = gv h 360448 := gv_fr (q4 _ rfl rfl)
      have fin : (gv h1 274436 ≠ 0 ∨ se_s0 h + 1 ≤ se_s0 h1) ∧ gv h1 294912 ≤ se_s0 h1 := by
        unfold se_s0 at g4 ⊢
        omega
      exact ⟨rfl, ⟨q3, q5, by omega, by omega, by omega, fin.2, ai_fr_trans g5 (ai_fr_of q4 (by decide))⟩, fin.1⟩
theorem rs_m_readLine_r0_r0_member0 (he : ai_env X B) {h0 h : fx_H} (hS : se_I0 h0 h) (hg : gv h 274436 = 0) (hs16 : se_s0 h ≤ 16) (ht1 : 3 ≤ gv h 274440) (ht2 : gv h 274440 ≤ 3) {nm : Nat} (hn1 : ai_pl h 274442 = some (fl nm)) (hn2 : ai_lo 120282394289524 nm) (k303104 : gv h 303104 = 0) : rx_met l X Y B 125 13 [fr 67] h (se_P0 h0 h) := by
  obtain ⟨hI, hP, g1, g2, g3, g4, g5⟩ := hS
  obtain ⟨t1, t2, t3, t4, t5, t6, t7, t8⟩ := se_top0 hI
  refine rx_met_mono (rx_met_deep (by decide : 5 ≤ 13) (ic_m_readLine_r0_r0_member0 he [fr 67] h ⟨rfl, trivial⟩ (fun q hq => ?_) hI hP)) (fun v h1 q => ?_)
  · rcases List.mem_cons.mp hq with rfl | hq
    · exact mo_iv 0 0 hI rfl (by omega) (by omega) (by decide)
    · rcases List.mem_cons.mp hq with rfl | hq
      · exact mo_iv 0 1600 hI rfl (by omega) (by omega) (by decide)
      · rcases List.mem_cons.mp hq with rfl | hq
        · exact mo_iv 3 3 hI rfl (by omega) (by omega) (by decide)
        · rcases List.mem_cons.mp hq with rfl | hq
          · exact ⟨_, hn1, nm, rfl, hn2⟩
          · rcases List.mem_cons.mp hq with rfl | hq
            · exact mo_iv 0 0 hI rfl (by omega) (by omega) (by decide)
            · rcases List.mem_cons.mp hq with rfl | hq
              · exact mo_iv 1 4 hI rfl (by omega) (by omega) (by decide)
              · rcases List.mem_cons.mp hq with rfl | hq
                · exact mo_iv 0 16 hI rfl (by omega) (by omega) (by decide)
                · rcases List.mem_cons.mp hq with rfl | hq
                  · exact mo_iv 0 0 hI rfl (by omega) (by omega) (by decide)
                  · cases hq
  · obtain ⟨⟨q1, q2, q3, q4, q5⟩, q6⟩ := q
    cases v with
    | some v => exact False.elim q1
    | none =>
      have p0 := at_num (p := 274439) (lo := 0) (hi := 1600) (q2 _ (List.mem_of_getElem? (i := 0) rfl)) (by decide)
      have p1 := at_num (p := 286721) (lo := 1) (hi := 4) (q2 _ (List.mem_of_getElem? (i := 1) rfl)) (by decide)
      have p2 := at_num (p := 294912) (lo := 1) (hi := 17) (q2 _ (List.mem_of_getElem? (i := 2) rfl)) (by decide)
      have p3 := at_num (p := 303104) (lo := 1) (hi := 1) (q2 _ (List.mem_of_getElem? (i := 3) rfl)) (by decide)
      have s_rb : gv h1 274470 = gv h 274470 := gv_fr (q4 _ rfl rfl)
      have s_D : gv h1 299008 = gv h 299008 := gv_fr (q4 _ rfl rfl)
      have s_A : gv h1 352256 = gv h 352256 := gv_fr (q4 _ rfl rfl)
      have s_B : gv h1 352257 = gv h 352257 := gv_fr (q4 _ rfl rfl)
      have s_T : gv h1 356352 = gv h 356352 := gv_fr (q4 _ rfl rfl)
      have s_W : gv h1 360448 = gv h 360448 := gv_fr (q4 _ rfl rfl)
      have hl := q6 (294912, 2147483649) List.mem_cons_self
      unfold ai_gr at hl
      simp only at hl
      rw [rb_small (x := gv h 294912) (by omega), rb_small (x := gv h1 294912) (by omega)] at hl
      have fin : (gv h1 274436 ≠ 0 ∨ se_s0 h + 1 ≤ se_s0 h1) ∧ gv h1 294912 ≤ se_s0 h1 := by
        unfold se_s0 at g4 ⊢
        omega
      exact ⟨rfl, ⟨q3, q5, by omega, by omega, by omega, fin.2, ai_fr_trans g5 (ai_fr_of q4 (by decide))⟩, fin.1⟩
theorem rs_m_readLine_r0_r0_member1 (he : ai_env X B) {h0 h : fx_H} (hS : se_I0 h0 h) (hg : gv h 274436 = 0) (hs16 : se_s0 h ≤ 16) (ht1 : 3 ≤ gv h 274440) (ht2 : gv h 274440 ≤ 3) {nm : Nat} (hn1 : ai_pl h 274442 = some (fl nm)) (hn2 : ai_lo 120282394289524 nm) (k303104 : gv h 303104 = 1) : rx_met l X Y B 125 13 [fr 67] h (se_P0 h0 h) := by
  obtain ⟨hI, hP, g1, g2, g3, g4, g5⟩ := hS
  obtain ⟨t1, t2, t3, t4, t5, t6, t7, t8⟩ := se_top0 hI
  refine rx_met_mono (rx_met_deep (by decide : 5 ≤ 13) (ic_m_readLine_r0_r0_member1 he [fr 67] h ⟨rfl, trivial⟩ (fun q hq => ?_) hI hP)) (fun v h1 q => ?_)
  · rcases List.mem_cons.mp hq with rfl | hq
    · exact mo_iv 0 0 hI rfl (by omega) (by omega) (by decide)
    · rcases List.mem_cons.mp hq with rfl | hq
      · exact mo_iv 0 1600 hI rfl (by omega) (by omega) (by decide)
      · rcases List.mem_cons.mp hq with rfl | hq
        · exact mo_iv 3 3 hI rfl (by omega) (by omega) (by decide)
        · rcases List.mem_cons.mp hq with rfl | hq
          · exact ⟨_, hn1, nm, rfl, hn2⟩
          · rcases List.mem_cons.mp hq with rfl | hq
            · exact mo_iv 0 0 hI rfl (by omega) (by omega) (by decide)
            · rcases List.mem_cons.mp hq with rfl | hq
              · exact mo_iv 1 4 hI rfl (by omega) (by omega) (by decide)
              · rcases List.mem_cons.mp hq with rfl | hq
                · exact mo_iv 0 16 hI rfl (by omega) (by omega) (by decide)
                · rcases List.mem_cons.mp hq with rfl | hq
                  · exact mo_iv 1 1 hI rfl (by omega) (by omega) (by decide)
                  · cases hq
  · obtain ⟨⟨q1, q2, q3, q4, q5⟩, q6⟩ := q
    cases v with
    | some v => exact False.elim q1
    | none =>
      have p0 := at_num (p := 274439) (lo := 0) (hi := 1600) (q2 _ (List.mem_of_getElem? (i := 0) rfl)) (by decide)
      have p1 := at_num (p := 286721) (lo := 1) (hi := 4) (q2 _ (List.mem_of_getElem? (i := 1) rfl)) (by decide)
      have p2 := at_num (p := 294912) (lo := 1) (hi := 17) (q2 _ (List.mem_of_getElem? (i := 2) rfl)) (by decide)
      have p3 := at_num (p := 303104) (lo := 2) (hi := 2) (q2 _ (List.mem_of_getElem? (i := 3) rfl)) (by decide)
      have s_rb : gv h1 274470 = gv h 274470 := gv_fr (q4 _ rfl rfl)
      have s_D : gv h1 299008 = gv h 299008 := gv_fr (q4 _ rfl rfl)
      have s_A : gv h1 352256 = gv h 352256 := gv_fr (q4 _ rfl rfl)
      have s_B : gv h1 352257 = gv h 352257 := gv_fr (q4 _ rfl rfl)
      have s_T : gv h1 356352 = gv h 356352 := gv_fr (q4 _ rfl rfl)
      have s_W : gv h1 360448 = gv h 360448 := gv_fr (q4 _ rfl rfl)
      have hl := q6 (294912, 2147483649) List.mem_cons_self
      unfold ai_gr at hl
      simp only at hl
      rw [rb_small (x := gv h 294912) (by omega), rb_small (x := gv h1 294912) (by omega)] at hl
      have fin : (gv h1 274436 ≠ 0 ∨ se_s0 h + 1 ≤ se_s0 h1) ∧ gv h1 294912 ≤ se_s0 h1 := by
        unfold se_s0 at g4 ⊢
        omega
      exact ⟨rfl, ⟨q3, q5, by omega, by omega, by omega, fin.2, ai_fr_trans g5 (ai_fr_of q4 (by decide))⟩, fin.1⟩
theorem rs_m_readLine_r0_r0_member2 (he : ai_env X B) {h0 h : fx_H} (hS : se_I0 h0 h) (hg : gv h 274436 = 0) (hs16 : se_s0 h ≤ 16) (ht1 : 3 ≤ gv h 274440) (ht2 : gv h 274440 ≤ 3) {nm : Nat} (hn1 : ai_pl h 274442 = some (fl nm)) (hn2 : ai_lo 120282394289524 nm) (k303104 : gv h 303104 = 2) : rx_met l X Y B 125 13 [fr 67] h (se_P0 h0 h) := by
  obtain ⟨hI, hP, g1, g2, g3, g4, g5⟩ := hS
  obtain ⟨t1, t2, t3, t4, t5, t6, t7, t8⟩ := se_top0 hI
  refine rx_met_mono (rx_met_deep (by decide : 5 ≤ 13) (ic_m_readLine_r0_r0_member2 he [fr 67] h ⟨rfl, trivial⟩ (fun q hq => ?_) hI hP)) (fun v h1 q => ?_)
  · rcases List.mem_cons.mp hq with rfl | hq
    · exact mo_iv 0 0 hI rfl (by omega) (by omega) (by decide)
    · rcases List.mem_cons.mp hq with rfl | hq
      · exact mo_iv 0 1600 hI rfl (by omega) (by omega) (by decide)
      · rcases List.mem_cons.mp hq with rfl | hq
        · exact mo_iv 3 3 hI rfl (by omega) (by omega) (by decide)
        · rcases List.mem_cons.mp hq with rfl | hq
          · exact ⟨_, hn1, nm, rfl, hn2⟩
          · rcases List.mem_cons.mp hq with rfl | hq
            · exact mo_iv 0 0 hI rfl (by omega) (by omega) (by decide)
            · rcases List.mem_cons.mp hq with rfl | hq
              · exact mo_iv 1 4 hI rfl (by omega) (by omega) (by decide)
              · rcases List.mem_cons.mp hq with rfl | hq
                · exact mo_iv 0 16 hI rfl (by omega) (by omega) (by decide)
                · rcases List.mem_cons.mp hq with rfl | hq
                  · exact mo_iv 2 2 hI rfl (by omega) (by omega) (by decide)
                  · cases hq
  · obtain ⟨⟨q1, q2, q3, q4, q5⟩, q6⟩ := q
    cases v with
    | some v => exact False.elim q1
    | none =>
      have p0 := at_num (p := 274439) (lo := 0) (hi := 1600) (q2 _ (List.mem_of_getElem? (i := 0) rfl)) (by decide)
      have p1 := at_num (p := 286721) (lo := 1) (hi := 4) (q2 _ (List.mem_of_getElem? (i := 1) rfl)) (by decide)
      have p2 := at_num (p := 294912) (lo := 1) (hi := 17) (q2 _ (List.mem_of_getElem? (i := 2) rfl)) (by decide)
      have p3 := at_num (p := 303104) (lo := 3) (hi := 3) (q2 _ (List.mem_of_getElem? (i := 3) rfl)) (by decide)
      have s_rb : gv h1 274470 = gv h 274470 := gv_fr (q4 _ rfl rfl)
      have s_D : gv h1 299008 = gv h 299008 := gv_fr (q4 _ rfl rfl)
      have s_A : gv h1 352256 = gv h 352256 := gv_fr (q4 _ rfl rfl)
      have s_B : gv h1 352257 = gv h 352257 := gv_fr (q4 _ rfl rfl)
      have s_T : gv h1 356352 = gv h 356352 := gv_fr (q4 _ rfl rfl)
      have s_W : gv h1 360448 = gv h 360448 := gv_fr (q4 _ rfl rfl)
      have hl := q6 (294912, 2147483649) List.mem_cons_self
      unfold ai_gr at hl
      simp only at hl
      rw [rb_small (x := gv h 294912) (by omega), rb_small (x := gv h1 294912) (by omega)] at hl
      have fin : (gv h1 274436 ≠ 0 ∨ se_s0 h + 1 ≤ se_s0 h1) ∧ gv h1 294912 ≤ se_s0 h1 := by
        unfold se_s0 at g4 ⊢
        omega
      exact ⟨rfl, ⟨q3, q5, by omega, by omega, by omega, fin.2, ai_fr_trans g5 (ai_fr_of q4 (by decide))⟩, fin.1⟩
theorem rs_m_readLine_r0_r0_member3 (he : ai_env X B) {h0 h : fx_H} (hS : se_I0 h0 h) (hg : gv h 274436 = 0) (hs16 : se_s0 h ≤ 16) (ht1 : 3 ≤ gv h 274440) (ht2 : gv h 274440 ≤ 3) {nm : Nat} (hn1 : ai_pl h 274442 = some (fl nm)) (hn2 : ai_lo 120282394289524 nm) (k303104 : gv h 303104 = 3) : rx_met l X Y B 125 13 [fr 67] h (se_P0 h0 h) := by
  obtain ⟨hI, hP, g1, g2, g3, g4, g5⟩ := hS
  obtain ⟨t1, t2, t3, t4, t5, t6, t7, t8⟩ := se_top0 hI
  refine rx_met_mono (rx_met_deep (by decide : 5 ≤ 13) (ic_m_readLine_r0_r0_member3 he [fr 67] h ⟨rfl, trivial⟩ (fun q hq => ?_) hI hP)) (fun v h1 q => ?_)
  · rcases List.mem_cons.mp hq with rfl | hq
    · exact mo_iv 0 0 hI rfl (by omega) (by omega) (by decide)
    · rcases List.mem_cons.mp hq with rfl | hq
      · exact mo_iv 0 1600 hI rfl (by omega) (by omega) (by decide)
      · rcases List.mem_cons.mp hq with rfl | hq
        · exact mo_iv 3 3 hI rfl (by omega) (by omega) (by decide)
        · rcases List.mem_cons.mp hq with rfl | hq
          · exact ⟨_, hn1, nm, rfl, hn2⟩
          · rcases List.mem_cons.mp hq with rfl | hq
            · exact mo_iv 0 0 hI rfl (by omega) (by omega) (by decide)
            · rcases List.mem_cons.mp hq with rfl | hq
              · exact mo_iv 1 4 hI rfl (by omega) (by omega) (by decide)
              · rcases List.mem_cons.mp hq with rfl | hq
                · exact mo_iv 0 16 hI rfl (by omega) (by omega) (by decide)
                · rcases List.mem_cons.mp hq with rfl | hq
                  · exact mo_iv 3 3 hI rfl (by omega) (by omega) (by decide)
                  · cases hq
  · obtain ⟨⟨q1, q2, q3, q4, q5⟩, q6⟩ := q
    cases v with
    | some v => exact False.elim q1
    | none =>
      have p0 := at_num (p := 274439) (lo := 0) (hi := 1600) (q2 _ (List.mem_of_getElem? (i := 0) rfl)) (by decide)
      have p1 := at_num (p := 286721) (lo := 1) (hi := 4) (q2 _ (List.mem_of_getElem? (i := 1) rfl)) (by decide)
      have p2 := at_num (p := 294912) (lo := 1) (hi := 17) (q2 _ (List.mem_of_getElem? (i := 2) rfl)) (by decide)
      have p3 := at_num (p := 303104) (lo := 4) (hi := 4) (q2 _ (List.mem_of_getElem? (i := 3) rfl)) (by decide)
      have s_rb : gv h1 274470 = gv h 274470 := gv_fr (q4 _ rfl rfl)
      have s_D : gv h1 299008 = gv h 299008 := gv_fr (q4 _ rfl rfl)
      have s_A : gv h1 352256 = gv h 352256 := gv_fr (q4 _ rfl rfl)
      have s_B : gv h1 352257 = gv h 352257 := gv_fr (q4 _ rfl rfl)
      have s_T : gv h1 356352 = gv h 356352 := gv_fr (q4 _ rfl rfl)
      have s_W : gv h1 360448 = gv h 360448 := gv_fr (q4 _ rfl rfl)
      have hl := q6 (294912, 2147483649) List.mem_cons_self
      unfold ai_gr at hl
      simp only at hl
      rw [rb_small (x := gv h 294912) (by omega), rb_small (x := gv h1 294912) (by omega)] at hl
      have fin : (gv h1 274436 ≠ 0 ∨ se_s0 h + 1 ≤ se_s0 h1) ∧ gv h1 294912 ≤ se_s0 h1 := by
        unfold se_s0 at g4 ⊢
        omega
      exact ⟨rfl, ⟨q3, q5, by omega, by omega, by omega, fin.2, ai_fr_trans g5 (ai_fr_of q4 (by decide))⟩, fin.1⟩
theorem rs_m_readLine_r0_r0_member4 (he : ai_env X B) {h0 h : fx_H} (hS : se_I0 h0 h) (hg : gv h 274436 = 0) (hs16 : se_s0 h ≤ 16) (ht1 : 3 ≤ gv h 274440) (ht2 : gv h 274440 ≤ 3) {nm : Nat} (hn1 : ai_pl h 274442 = some (fl nm)) (hn2 : ai_lo 120282394289524 nm) (k303104 : gv h 303104 = 4) : rx_met l X Y B 125 13 [fr 67] h (se_P0 h0 h) := by
  obtain ⟨hI, hP, g1, g2, g3, g4, g5⟩ := hS
  obtain ⟨t1, t2, t3, t4, t5, t6, t7, t8⟩ := se_top0 hI
  refine rx_met_mono (rx_met_deep (by decide : 5 ≤ 13) (ic_m_readLine_r0_r0_member4 he [fr 67] h ⟨rfl, trivial⟩ (fun q hq => ?_) hI hP)) (fun v h1 q => ?_)
  · rcases List.mem_cons.mp hq with rfl | hq
    · exact mo_iv 0 0 hI rfl (by omega) (by omega) (by decide)
    · rcases List.mem_cons.mp hq with rfl | hq
      · exact mo_iv 0 1600 hI rfl (by omega) (by omega) (by decide)
      · rcases List.mem_cons.mp hq with rfl | hq
        · exact mo_iv 3 3 hI rfl (by omega) (by omega) (by decide)
        · rcases List.mem_cons.mp hq with rfl | hq
          · exact ⟨_, hn1, nm, rfl, hn2⟩
          · rcases List.mem_cons.mp hq with rfl | hq
            · exact mo_iv 0 0 hI rfl (by omega) (by omega) (by decide)
            · rcases List.mem_cons.mp hq with rfl | hq
              · exact mo_iv 1 4 hI rfl (by omega) (by omega) (by decide)
              · rcases List.mem_cons.mp hq with rfl | hq
                · exact mo_iv 0 16 hI rfl (by omega) (by omega) (by decide)
                · rcases List.mem_cons.mp hq with rfl | hq
                  · exact mo_iv 4 4 hI rfl (by omega) (by omega) (by decide)
                  · cases hq
  · obtain ⟨⟨q1, q2, q3, q4, q5⟩, q6⟩ := q
    cases v with
    | some v => exact False.elim q1
    | none =>
      have p0 := at_num (p := 274439) (lo := 0) (hi := 1600) (q2 _ (List.mem_of_getElem? (i := 0) rfl)) (by decide)
      have p1 := at_num (p := 286721) (lo := 1) (hi := 4) (q2 _ (List.mem_of_getElem? (i := 1) rfl)) (by decide)
      have p2 := at_num (p := 294912) (lo := 1) (hi := 17) (q2 _ (List.mem_of_getElem? (i := 2) rfl)) (by decide)
      have p3 := at_num (p := 303104) (lo := 5) (hi := 5) (q2 _ (List.mem_of_getElem? (i := 3) rfl)) (by decide)
      have s_rb : gv h1 274470 = gv h 274470 := gv_fr (q4 _ rfl rfl)
      have s_D : gv h1 299008 = gv h 299008 := gv_fr (q4 _ rfl rfl)
      have s_A : gv h1 352256 = gv h 352256 := gv_fr (q4 _ rfl rfl)
      have s_B : gv h1 352257 = gv h 352257 := gv_fr (q4 _ rfl rfl)
      have s_T : gv h1 356352 = gv h 356352 := gv_fr (q4 _ rfl rfl)
      have s_W : gv h1 360448 = gv h 360448 := gv_fr (q4 _ rfl rfl)
      have hl := q6 (294912, 2147483649) List.mem_cons_self
      unfold ai_gr at hl
      simp only at hl
      rw [rb_small (x := gv h 294912) (by omega), rb_small (x := gv h1 294912) (by omega)] at hl
      have fin : (gv h1 274436 ≠ 0 ∨ se_s0 h + 1 ≤ se_s0 h1) ∧ gv h1 294912 ≤ se_s0 h1 := by
        unfold se_s0 at g4 ⊢
        omega
      exact ⟨rfl, ⟨q3, q5, by omega, by omega, by omega, fin.2, ai_fr_trans g5 (ai_fr_of q4 (by decide))⟩, fin.1⟩
theorem rs_m_readLine_r0_r0_member5 (he : ai_env X B) {h0 h : fx_H} (hS : se_I0 h0 h) (hg : gv h 274436 = 0) (hs16 : se_s0 h ≤ 16) (ht1 : 3 ≤ gv h 274440) (ht2 : gv h 274440 ≤ 3) {nm : Nat} (hn1 : ai_pl h 274442 = some (fl nm)) (hn2 : ai_lo 120282394289524 nm) (k303104 : gv h 303104 = 5) : rx_met l X Y B 125 13 [fr 67] h (se_P0 h0 h) := by
  obtain ⟨hI, hP, g1, g2, g3, g4, g5⟩ := hS
  obtain ⟨t1, t2, t3, t4, t5, t6, t7, t8⟩ := se_top0 hI
  refine rx_met_mono (rx_met_deep (by decide : 5 ≤ 13) (ic_m_readLine_r0_r0_member5 he [fr 67] h ⟨rfl, trivial⟩ (fun q hq => ?_) hI hP)) (fun v h1 q => ?_)
  · rcases List.mem_cons.mp hq with rfl | hq
    · exact mo_iv 0 0 hI rfl (by omega) (by omega) (by decide)
    · rcases List.mem_cons.mp hq with rfl | hq
      · exact mo_iv 0 1600 hI rfl (by omega) (by omega) (by decide)
      · rcases List.mem_cons.mp hq with rfl | hq
        · exact mo_iv 3 3 hI rfl (by omega) (by omega) (by decide)
        · rcases List.mem_cons.mp hq with rfl | hq
          · exact ⟨_, hn1, nm, rfl, hn2⟩
          · rcases List.mem_cons.mp hq with rfl | hq
            · exact mo_iv 0 0 hI rfl (by omega) (by omega) (by decide)
            · rcases List.mem_cons.mp hq with rfl | hq
              · exact mo_iv 1 4 hI rfl (by omega) (by omega) (by decide)
              · rcases List.mem_cons.mp hq with rfl | hq
                · exact mo_iv 0 16 hI rfl (by omega) (by omega) (by decide)
                · rcases List.mem_cons.mp hq with rfl | hq
                  · exact mo_iv 5 5 hI rfl (by omega) (by omega) (by decide)
                  · cases hq
  · obtain ⟨⟨q1, q2, q3, q4, q5⟩, q6⟩ := q
    cases v with
    | some v => exact False.elim q1
    | none =>
      have p0 := at_num (p := 274439) (lo := 0) (hi := 1600) (q2 _ (List.mem_of_getElem? (i := 0) rfl)) (by decide)
      have p1 := at_num (p := 286721) (lo := 1) (hi := 4) (q2 _ (List.mem_of_getElem? (i := 1) rfl)) (by decide)
      have p2 := at_num (p := 294912) (lo := 1) (hi := 17) (q2 _ (List.mem_of_getElem? (i := 2) rfl)) (by decide)
      have p3 := at_num (p := 303104) (lo := 6) (hi := 6) (q2 _ (List.mem_of_getElem? (i := 3) rfl)) (by decide)
      have s_rb : gv h1 274470 = gv h 274470 := gv_fr (q4 _ rfl rfl)
      have s_D : gv h1 299008 = gv h 299008 := gv_fr (q4 _ rfl rfl)
      have s_A : gv h1 352256 = gv h 352256 := gv_fr (q4 _ rfl rfl)
      have s_B : gv h1 352257 = gv h 352257 := gv_fr (q4 _ rfl rfl)
      have s_T : gv h1 356352 = gv h 356352 := gv_fr (q4 _ rfl rfl)
      have s_W : gv h1 360448 = gv h 360448 := gv_fr (q4 _ rfl rfl)
      have hl := q6 (294912, 2147483649) List.mem_cons_self
      unfold ai_gr at hl
      simp only at hl
      rw [rb_small (x := gv h 294912) (by omega), rb_small (x := gv h1 294912) (by omega)] at hl
      have fin : (gv h1 274436 ≠ 0 ∨ se_s0 h + 1 ≤ se_s0 h1) ∧ gv h1 294912 ≤ se_s0 h1 := by
        unfold se_s0 at g4 ⊢
        omega
      exact ⟨rfl, ⟨q3, q5, by omega, by omega, by omega, fin.2, ai_fr_trans g5 (ai_fr_of q4 (by decide))⟩, fin.1⟩
theorem rs_m_readLine_r0_r0_member6 (he : ai_env X B) {h0 h : fx_H} (hS : se_I0 h0 h) (hg : gv h 274436 = 0) (hs16 : se_s0 h ≤ 16) (ht1 : 3 ≤ gv h 274440) (ht2 : gv h 274440 ≤ 3) {nm : Nat} (hn1 : ai_pl h 274442 = some (fl nm)) (hn2 : ai_lo 120282394289524 nm) (k303104 : gv h 303104 = 6) : rx_met l X Y B 125 13 [fr 67] h (se_P0 h0 h) := by
  obtain ⟨hI, hP, g1, g2, g3, g4, g5⟩ := hS
  obtain ⟨t1, t2, t3, t4, t5, t6, t7, t8⟩ := se_top0 hI
  refine rx_met_mono (rx_met_deep (by decide : 5 ≤ 13) (ic_m_readLine_r0_r0_member6 he [fr 67] h ⟨rfl, trivial⟩ (fun q hq => ?_) hI hP)) (fun v h1 q => ?_)
  · rcases List.mem_cons.mp hq with rfl | hq
    · exact mo_iv 0 0 hI rfl (by omega) (by omega) (by decide)
    · rcases List.mem_cons.mp hq with rfl | hq
      · exact mo_iv 0 1600 hI rfl (by omega) (by omega) (by decide)
      · rcases List.mem_cons.mp hq with rfl | hq
        · exact mo_iv 3 3 hI rfl (by omega) (by omega) (by decide)
        · rcases List.mem_cons.mp hq with rfl | hq
          · exact ⟨_, hn1, nm, rfl, hn2⟩
          · rcases List.mem_cons.mp hq with rfl | hq
            · exact mo_iv 0 0 hI rfl (by omega) (by omega) (by decide)
            · rcases List.mem_cons.mp hq with rfl | hq
              · exact mo_iv 1 4 hI rfl (by omega) (by omega) (by decide)
              · rcases List.mem_cons.mp hq with rfl | hq
                · exact mo_iv 0 16 hI rfl (by omega) (by omega) (by decide)
                · rcases List.mem_cons.mp hq with rfl | hq
                  · exact mo_iv 6 6 hI rfl (by omega) (by omega) (by decide)
                  · cases hq
  · obtain ⟨⟨q1, q2, q3, q4, q5⟩, q6⟩ := q
    cases v with
    | some v => exact False.elim q1
    | none =>
      have p0 := at_num (p := 274439) (lo := 0) (hi := 1600) (q2 _ (List.mem_of_getElem? (i := 0) rfl)) (by decide)
      have p1 := at_num (p := 286721) (lo := 1) (hi := 4) (q2 _ (List.mem_of_getElem? (i := 1) rfl)) (by decide)
      have p2 := at_num (p := 294912) (lo := 1) (hi := 17) (q2 _ (List.mem_of_getElem? (i := 2) rfl)) (by decide)
      have p3 := at_num (p := 303104) (lo := 7) (hi := 7) (q2 _ (List.mem_of_getElem? (i := 3) rfl)) (by decide)
      have s_rb : gv h1 274470 = gv h 274470 := gv_fr (q4 _ rfl rfl)
      have s_D : gv h1 299008 = gv h 299008 := gv_fr (q4 _ rfl rfl)
      have s_A : gv h1 352256 = gv h 352256 := gv_fr (q4 _ rfl rfl)
      have s_B : gv h1 352257 = gv h 352257 := gv_fr (q4 _ rfl rfl)
      have s_T : gv h1 356352 = gv h 356352 := gv_fr (q4 _ rfl rfl)
      have s_W : gv h1 360448 = gv h 360448 := gv_fr (q4 _ rfl rfl)
      have hl := q6 (294912, 2147483649) List.mem_cons_self
      unfold ai_gr at hl
      simp only at hl
      rw [rb_small (x := gv h 294912) (by omega), rb_small (x := gv h1 294912) (by omega)] at hl
      have fin : (gv h1 274436 ≠ 0 ∨ se_s0 h + 1 ≤ se_s0 h1) ∧ gv h1 294912 ≤ se_s0 h1 := by
        unfold se_s0 at g4 ⊢
        omega
      exact ⟨rfl, ⟨q3, q5, by omega, by omega, by omega, fin.2, ai_fr_trans g5 (ai_fr_of q4 (by decide))⟩, fin.1⟩
theorem rs_m_readLine_r0_r0_member7 (he : ai_env X B) {h0 h : fx_H} (hS : se_I0 h0 h) (hg : gv h 274436 = 0) (hs16 : se_s0 h ≤ 16) (ht1 : 3 ≤ gv h 274440) (ht2 : gv h 274440 ≤ 3) {nm : Nat} (hn1 : ai_pl h 274442 = some (fl nm)) (hn2 : ai_lo 120282394289524 nm) (k303104 : gv h 303104 = 7) : rx_met l X Y B 125 13 [fr 67] h (se_P0 h0 h) := by
  obtain ⟨hI, hP, g1, g2, g3, g4, g5⟩ := hS
  obtain ⟨t1, t2, t3, t4, t5, t6, t7, t8⟩ := se_top0 hI
  refine rx_met_mono (rx_met_deep (by decide : 2 ≤ 13) (ic_m_readLine_r0_r0_member7 he [fr 67] h ⟨rfl, trivial⟩ (fun q hq => ?_) hI hP)) (fun v h1 q => ?_)
  · rcases List.mem_cons.mp hq with rfl | hq
    · exact mo_iv 0 0 hI rfl (by omega) (by omega) (by decide)
    · rcases List.mem_cons.mp hq with rfl | hq
      · exact mo_iv 0 1600 hI rfl (by omega) (by omega) (by decide)
      · rcases List.mem_cons.mp hq with rfl | hq
        · exact mo_iv 3 3 hI rfl (by omega) (by omega) (by decide)
        · rcases List.mem_cons.mp hq with rfl | hq
          · exact ⟨_, hn1, nm, rfl, hn2⟩
          · rcases List.mem_cons.mp hq with rfl | hq
            · exact mo_iv 0 0 hI rfl (by omega) (by omega) (by decide)
            · rcases List.mem_cons.mp hq with rfl | hq
              · exact mo_iv 1 4 hI rfl (by omega) (by omega) (by decide)
              · rcases List.mem_cons.mp hq with rfl | hq
                · exact mo_iv 0 16 hI rfl (by omega) (by omega) (by decide)
                · rcases List.mem_cons.mp hq with rfl | hq
                  · exact mo_iv 7 7 hI rfl (by omega) (by omega) (by decide)
                  · cases hq
  · obtain ⟨⟨q1, q2, q3, q4, q5⟩, q6⟩ := q
    cases v with
    | some v => exact False.elim q1
    | none =>
      have p0 := at_num (p := 274436) (lo := 2) (hi := 2) (q2 _ (List.mem_of_getElem? (i := 0) rfl)) (by decide)
      have p1 := at_num (p := 274439) (lo := 0) (hi := 1600) (q2 _ (List.mem_of_getElem? (i := 1) rfl)) (by decide)
      have p2 := at_num (p := 286721) (lo := 1) (hi := 4) (q2 _ (List.mem_of_getElem? (i := 2) rfl)) (by decide)
      have s_rb : gv h1 274470 = gv h 274470 := gv_fr (q4 _ rfl rfl)
      have s_ln : gv h1 294912 = gv h 294912 := gv_fr (q4 _ rfl rfl)
      have s_D : gv h1 299008 = gv h 299008 := gv_fr (q4 _ rfl rfl)
      have s_M : gv h1 303104 = gv h 303104 := gv_fr (q4 _ rfl rfl)
      have s_A : gv h1 352256 = gv h 352256 := gv_fr (q4 _ rfl rfl)
      have s_B : gv h1 352257 = gv h 352257 := gv_fr (q4 _ rfl rfl)
      have s_T : gv h1 356352 = gv h 356352 := gv_fr (q4 _ rfl rfl)
      have s_W : gv h1 360448 = gv h 360448 := gv_fr (q4 _ rfl rfl)
      have fin : (gv h1 274436 ≠ 0 ∨ se_s0 h + 1 ≤ se_s0 h1) ∧ gv h1 294912 ≤ se_s0 h1 := by
        unfold se_s0 at g4 ⊢
        omega
      exact ⟨rfl, ⟨q3, q5, by omega, by omega, by omega, fin.2, ai_fr_trans g5 (ai_fr_of q4 (by decide))⟩, fin.1⟩
theorem rs_m_readLine_r0_r0_tooth0 (he : ai_env X B) {h0 h : fx_H} (hS : se_I0 h0 h) (hg : gv h 274436 = 0) (hs16 : se_s0 h ≤ 16) (ht1 : 3 ≤ gv h 274440) (ht2 : gv h 274440 ≤ 3) {nm : Nat} (hn1 : ai_pl h 274442 = some (fl nm)) (hn2 : ai_lo 500085781610 nm) (k356352 : gv h 356352 = 0) : rx_met l X Y B 125 13 [fr 67] h (se_P0 h0 h) := by
  obtain ⟨hI, hP, g1, g2, g3, g4, g5⟩ := hS
  obtain ⟨t1, t2, t3, t4, t5, t6, t7, t8⟩ := se_top0 hI
  refine rx_met_mono (rx_met_deep (by decide : 4 ≤ 13) (ic_m_readLine_r0_r0_tooth0 he [fr 67] h ⟨rfl, trivial⟩ (fun q hq => ?_) hI hP)) (fun v h1 q => ?_)
  · rcases List.mem_cons.mp hq with rfl | hq
    · exact mo_iv 0 0 hI rfl (by omega) (by omega) (by decide)
    · rcases List.mem_cons.mp hq with rfl | hq
      · exact mo_iv 0 1600 hI rfl (by omega) (by omega) (by decide)
      · rcases List.mem_cons.mp hq with rfl | hq
        · exact mo_iv 3 3 hI rfl (by omega) (by omega) (by decide)
        · rcases List.mem_cons.mp hq with rfl | hq
          · exact ⟨_, hn1, nm, rfl, hn2⟩
          · rcases List.mem_cons.mp hq with rfl | hq
            · exact mo_iv 0 0 hI rfl (by omega) (by omega) (by decide)
            · rcases List.mem_cons.mp hq with rfl | hq
              · exact mo_iv 1 4 hI rfl (by omega) (by omega) (by decide)
              · rcases List.mem_cons.mp hq with rfl | hq
                · exact mo_iv 0 16 hI rfl (by omega) (by omega) (by decide)
                · rcases List.mem_cons.mp hq with rfl | hq
                  · exact mo_iv 0 0 hI rfl (by omega) (by omega) (by decide)
                  · cases hq
  · obtain ⟨⟨q1, q2, q3, q4, q5⟩, q6⟩ := q
    cases v with
    | some v => exact False.elim q1
    | none =>
      have p0 := at_num (p := 274439) (lo := 0) (hi := 1600) (q2 _ (List.mem_of_getElem? (i := 0) rfl)) (by decide)
      have p1 := at_num (p := 286721) (lo := 1) (hi := 4) (q2 _ (List.mem_of_getElem? (i := 1) rfl)) (by decide)
      have p2 := at_num (p := 294912) (lo := 1) (hi := 17) (q2 _ (List.mem_of_getElem? (i := 2) rfl)) (by decide)
      have p3 := at_num (p := 356352) (lo := 1) (hi := 1) (q2 _ (List.mem_of_getElem? (i := 3) rfl)) (by decide)
      have s_rb : gv h1 274470 = gv h 274470 := gv_fr (q4 _ rfl rfl)
      have s_D : gv h1 299008 = gv h 299008 := gv_fr (q4 _ rfl rfl)
      have s_M : gv h1 303104 = gv h 303104 := gv_fr (q4 _ rfl rfl)
      have s_A : gv h1 352256 = gv h 352256 := gv_fr (q4 _ rfl rfl)
      have s_B : gv h1 352257 = gv h 352257 := gv_fr (q4 _ rfl rfl)
      have s_W : gv h1 360448 = gv h 360448 := gv_fr (q4 _ rfl rfl)
      have hl := q6 (294912, 2147483649) List.mem_cons_self
      unfold ai_gr at hl
      simp only at hl
      rw [rb_small (x := gv h 294912) (by omega), rb_small (x := gv h1 294912) (by omega)] at hl
      have fin : (gv h1 274436 ≠ 0 ∨ se_s0 h + 1 ≤ se_s0 h1) ∧ gv h1 294912 ≤ se_s0 h1 := by
        unfold se_s0 at g4 ⊢
        omega
      exact ⟨rfl, ⟨q3, q5, by omega, by omega, by omega, fin.2, ai_fr_trans g5 (ai_fr_of q4 (by decide))⟩, fin.1⟩
theorem rs_m_readLine_r0_r0_tooth1 (he : ai_env X B) {h0 h : fx_H} (hS : se_I0 h0 h) (hg : gv h 274436 = 0) (hs16 : se_s0 h ≤ 16) (ht1 : 3 ≤ gv h 274440) (ht2 : gv h 274440 ≤ 3) {nm : Nat} (hn1 : ai_pl h 274442 = some (fl nm)) (hn2 : ai_lo 500085781610 nm) (k356352 : gv h 356352 = 1) : rx_met l X Y B 125 13 [fr 67] h (se_P0 h0 h) := by
  obtain ⟨hI, hP, g1, g2, g3, g4, g5⟩ := hS
  obtain ⟨t1, t2, t3, t4, t5, t6, t7, t8⟩ := se_top0 hI
  refine rx_met_mono (rx_met_deep (by decide : 2 ≤ 13) (ic_m_readLine_r0_r0_tooth1 he [fr 67] h ⟨rfl, trivial⟩ (fun q hq => ?_) hI hP)) (fun v h1 q => ?_)
  · rcases List.mem_cons.mp hq with rfl | hq
    · exact mo_iv 0 0 hI rfl (by omega) (by omega) (by decide)
    · rcases List.mem_cons.mp hq with rfl | hq
      · exact mo_iv 0 1600 hI rfl (by omega) (by omega) (by decide)
      · rcases List.mem_cons.mp hq with rfl | hq
        · exact mo_iv 3 3 hI rfl (by omega) (by omega) (by decide)
        · rcases List.mem_cons.mp hq with rfl | hq
          · exact ⟨_, hn1, nm, rfl, hn2⟩
          · rcases List.mem_cons.mp hq with rfl | hq
            · exact mo_iv 0 0 hI rfl (by omega) (by omega) (by decide)
            · rcases List.mem_cons.mp hq with rfl | hq
              · exact mo_iv 1 4 hI rfl (by omega) (by omega) (by decide)
              · rcases List.mem_cons.mp hq with rfl | hq
                · exact mo_iv 0 16 hI rfl (by omega) (by omega) (by decide)
                · rcases List.mem_cons.mp hq with rfl | hq
                  · exact mo_iv 1 1 hI rfl (by omega) (by omega) (by decide)
                  · cases hq
  · obtain ⟨⟨q1, q2, q3, q4, q5⟩, q6⟩ := q
    cases v with
    | some v => exact False.elim q1
    | none =>
      have p0 := at_num (p := 274436) (lo := 2) (hi := 2) (q2 _ (List.mem_of_getElem? (i := 0) rfl)) (by decide)
      have p1 := at_num (p := 274439) (lo := 0) (hi := 1600) (q2 _ (List.mem_of_getElem? (i := 1) rfl)) (by decide)
      have p2 := at_num (p := 286721) (lo := 1) (hi := 4) (q2 _ (List.mem_of_getElem? (i := 2) rfl)) (by decide)
      have s_rb : gv h1 274470 = gv h 274470 := gv_fr (q4 _ rfl rfl)
      have s_ln : gv h1 294912 = gv h 294912 := gv_fr (q4 _ rfl rfl)
      have s_D : gv h1 299008 = gv h 299008 := gv_fr (q4 _ rfl rfl)
      have s_M : gv h1 303104 = gv h 303104 := gv_fr (q4 _ rfl rfl)
      have s_A : gv h1 352256 = gv h 352256 := gv_fr (q4 _ rfl rfl)
      have s_B : gv h1 352257 = gv h 352257 := gv_fr (q4 _ rfl rfl)
      have s_T : gv h1 356352 = gv h 356352 := gv_fr (q4 _ rfl rfl)
      have s_W : gv h1 360448 = gv h 360448 := gv_fr (q4 _ rfl rfl)
      have fin : (gv h1 274436 ≠ 0 ∨ se_s0 h + 1 ≤ se_s0 h1) ∧ gv h1 294912 ≤ se_s0 h1 := by
        unfold se_s0 at g4 ⊢
        omega
      exact ⟨rfl, ⟨q3, q5, by omega, by omega, by omega, fin.2, ai_fr_trans g5 (ai_fr_of q4 (by decide))⟩, fin.1⟩
theorem rs_m_readLine_r0_r0_draw0 (he : ai_env X B) {h0 h : fx_H} (hS : se_I0 h0 h) (hg : gv h 274436 = 0) (hs16 : se_s0 h ≤ 16) (ht1 : 3 ≤ gv h 274440) (ht2 : gv h 274440 ≤ 3) {nm : Nat} (hn1 : ai_pl h 274442 = some (fl nm)) (hn2 : ai_lo 1685217657 nm) (k360448 : gv h 360448 = 0) : rx_met l X Y B 125 13 [fr 67] h (se_P0 h0 h) := by
  obtain ⟨hI, hP, g1, g2, g3, g4, g5⟩ := hS
  obtain ⟨t1, t2, t3, t4, t5, t6, t7, t8⟩ := se_top0 hI
  refine rx_met_mono (rx_met_deep (by decide : 3 ≤ 13) (ic_m_readLine_r0_r0_draw0 he [fr 67] h ⟨rfl, trivial⟩ (fun q hq => ?_) hI hP)) (fun v h1 q => ?_)
  · rcases List.mem_cons.mp hq with rfl | hq
    · exact mo_iv 0 0 hI rfl (by omega) (by omega) (by decide)
    · rcases List.mem_cons.mp hq with rfl | hq
      · exact mo_iv 0 1600 hI rfl (by omega) (by omega) (by decide)
      · rcases List.mem_cons.mp hq with rfl | hq
        · exact mo_iv 3 3 hI rfl (by omega) (by omega) (by decide)
        · rcases List.mem_cons.mp hq with rfl | hq
          · exact ⟨_, hn1, nm, rfl, hn2⟩
          · rcases List.mem_cons.mp hq with rfl | hq
            · exact mo_iv 0 0 hI rfl (by omega) (by omega) (by decide)
            · rcases List.mem_cons.mp hq with rfl | hq
              · exact mo_iv 1 4 hI rfl (by omega) (by omega) (by decide)
              · rcases List.mem_cons.mp hq with rfl | hq
                · exact mo_iv 0 16 hI rfl (by omega) (by omega) (by decide)
                · rcases List.mem_cons.mp hq with rfl | hq
                  · exact mo_iv 0 0 hI rfl (by omega) (by omega) (by decide)
                  · cases hq
  · obtain ⟨⟨q1, q2, q3, q4, q5⟩, q6⟩ := q
    cases v with
    | some v => exact False.elim q1
    | none =>
      have p0 := at_num (p := 274439) (lo := 0) (hi := 1600) (q2 _ (List.mem_of_getElem? (i := 0) rfl)) (by decide)
      have p1 := at_num (p := 286721) (lo := 1) (hi := 4) (q2 _ (List.mem_of_getElem? (i := 1) rfl)) (by decide)
      have p2 := at_num (p := 294912) (lo := 1) (hi := 17) (q2 _ (List.mem_of_getElem? (i := 2) rfl)) (by decide)
      have p3 := at_num (p := 360448) (lo := 1) (hi := 1) (q2 _ (List.mem_of_getElem? (i := 3) rfl)) (by decide)
      have s_rb : gv h1 274470 = gv h 274470 := gv_fr (q4 _ rfl rfl)
      have s_D : gv h1 299008 = gv h 299008 := gv_fr (q4 _ rfl rfl)
      have s_M : gv h1 303104 = gv h 303104 := gv_fr (q4 _ rfl rfl)
      have s_A : gv h1 352256 = gv h 352256 := gv_fr (q4 _ rfl rfl)
      have s_B : gv h1 352257 = gv h 352257 := gv_fr (q4 _ rfl rfl)
      have s_T : gv h1 356352 = gv h 356352 := gv_fr (q4 _ rfl rfl)
      have hl := q6 (294912, 2147483649) List.mem_cons_self
      unfold ai_gr at hl
      simp only at hl
      rw [rb_small (x := gv h 294912) (by omega), rb_small (x := gv h1 294912) (by omega)] at hl
      have fin : (gv h1 274436 ≠ 0 ∨ se_s0 h + 1 ≤ se_s0 h1) ∧ gv h1 294912 ≤ se_s0 h1 := by
        unfold se_s0 at g4 ⊢
        omega
      exact ⟨rfl, ⟨q3, q5, by omega, by omega, by omega, fin.2, ai_fr_trans g5 (ai_fr_of q4 (by decide))⟩, fin.1⟩
theorem rs_m_readLine_r0_r0_draw1 (he : ai_env X B) {h0 h : fx_H} (hS : se_I0 h0 h) (hg : gv h 274436 = 0) (hs16 : se_s0 h ≤ 16) (ht1 : 3 ≤ gv h 274440) (ht2 : gv h 274440 ≤ 3) {nm : Nat} (hn1 : ai_pl h 274442 = some (fl nm)) (hn2 : ai_lo 1685217657 nm) (k360448 : gv h 360448 = 1) : rx_met l X Y B 125 13 [fr 67] h (se_P0 h0 h) := by
  obtain ⟨hI, hP, g1, g2, g3, g4, g5⟩ := hS
  obtain ⟨t1, t2, t3, t4, t5, t6, t7, t8⟩ := se_top0 hI
  refine rx_met_mono (rx_met_deep (by decide : 2 ≤ 13) (ic_m_readLine_r0_r0_draw1 he [fr 67] h ⟨rfl, trivial⟩ (fun q hq => ?_) hI hP)) (fun v h1 q => ?_)
  · rcases List.mem_cons.mp hq with rfl | hq
    · exact mo_iv 0 0 hI rfl (by omega) (by omega) (by decide)
    · rcases List.mem_cons.mp hq with rfl | hq
      · exact mo_iv 0 1600 hI rfl (by omega) (by omega) (by decide)
      · rcases List.mem_cons.mp hq with rfl | hq
        · exact mo_iv 3 3 hI rfl (by omega) (by omega) (by decide)
        · rcases List.mem_cons.mp hq with rfl | hq
          · exact ⟨_, hn1, nm, rfl, hn2⟩
          · rcases List.mem_cons.mp hq with rfl | hq
            · exact mo_iv 0 0 hI rfl (by omega) (by omega) (by decide)
            · rcases List.mem_cons.mp hq with rfl | hq
              · exact mo_iv 1 4 hI rfl (by omega) (by omega) (by decide)
              · rcases List.mem_cons.mp hq with rfl | hq
                · exact mo_iv 0 16 hI rfl (by omega) (by omega) (by decide)
                · rcases List.mem_cons.mp hq with rfl | hq
                  · exact mo_iv 1 1 hI rfl (by omega) (by omega) (by decide)
                  · cases hq
  · obtain ⟨⟨q1, q2, q3, q4, q5⟩, q6⟩ := q
    cases v with
    | some v => exact False.elim q1
    | none =>
      have p0 := at_num (p := 274436) (lo := 2) (hi := 2) (q2 _ (List.mem_of_getElem? (i := 0) rfl)) (by decide)
      have p1 := at_num (p := 274439) (lo := 0) (hi := 1600) (q2 _ (List.mem_of_getElem? (i := 1) rfl)) (by decide)
      have p2 := at_num (p := 286721) (lo := 1) (hi := 4) (q2 _ (List.mem_of_getElem? (i := 2) rfl)) (by decide)
      have s_rb : gv h1 274470 = gv h 274470 := gv_fr (q4 _ rfl rfl)
      have s_ln : gv h1 294912 = gv h 294912 := gv_fr (q4 _ rfl rfl)
      have s_D : gv h1 299008 = gv h 299008 := gv_fr (q4 _ rfl rfl)
      have s_M : gv h1 303104 = gv h 303104 := gv_fr (q4 _ rfl rfl)
      have s_A : gv h1 352256 = gv h 352256 := gv_fr (q4 _ rfl rfl)
      have s_B : gv h1 352257 = gv h 352257 := gv_fr (q4 _ rfl rfl)
      have s_T : gv h1 356352 = gv h 356352 := gv_fr (q4 _ rfl rfl)
      have s_W : gv h1 360448 = gv h 360448 := gv_fr (q4 _ rfl rfl)
      have fin : (gv h1 274436 ≠ 0 ∨ se_s0 h + 1 ≤ se_s0 h1) ∧ gv h1 294912 ≤ se_s0 h1 := by
        unfold se_s0 at g4 ⊢
        omega
      exact ⟨rfl, ⟨q3, q5, by omega, by omega, by omega, fin.2, ai_fr_trans g5 (ai_fr_of q4 (by decide))⟩, fin.1⟩
theorem rs_m_readLine_r0_r0_look1 (he : ai_env X B) {h0 h : fx_H} (hS : se_I0 h0 h) (hg : gv h 274436 = 0) (hs16 : se_s0 h ≤ 16) (ht1 : 3 ≤ gv h 274440) (ht2 : gv h 274440 ≤ 3) {nm : Nat} (hn1 : ai_pl h 274442 = some (fl nm)) (hn2 : ai_lo 1819242349 nm) (k352256 : gv h 352256 = 1) : rx_met l X Y B 125 13 [fr 67] h (se_P0 h0 h) := by
  obtain ⟨hI, hP, g1, g2, g3, g4, g5⟩ := hS
  obtain ⟨t1, t2, t3, t4, t5, t6, t7, t8⟩ := se_top0 hI
  refine rx_met_mono (rx_met_deep (by decide : 2 ≤ 13) (ic_m_readLine_r0_r0_look1 he [fr 67] h ⟨rfl, trivial⟩ (fun q hq => ?_) hI hP)) (fun v h1 q => ?_)
  · rcases List.mem_cons.mp hq with rfl | hq
    · exact mo_iv 0 0 hI rfl (by omega) (by omega) (by decide)
    · rcases List.mem_cons.mp hq with rfl | hq
      · exact mo_iv 0 1600 hI rfl (by omega) (by omega) (by decide)
      · rcases List.mem_cons.mp hq with rfl | hq
        · exact mo_iv 3 3 hI rfl (by omega) (by omega) (by decide)
        · rcases List.mem_cons.mp hq with rfl | hq
          · exact ⟨_, hn1, nm, rfl, hn2⟩
          · rcases List.mem_cons.mp hq with rfl | hq
            · exact mo_iv 0 0 hI rfl (by omega) (by omega) (by decide)
            · rcases List.mem_cons.mp hq with rfl | hq
              · exact mo_iv 1 4 hI rfl (by omega) (by omega) (by decide)
              · rcases List.mem_cons.mp hq with rfl | hq
                · exact mo_iv 0 16 hI rfl (by omega) (by omega) (by decide)
                · rcases List.mem_cons.mp hq with rfl | hq
                  · exact mo_iv 1 1 hI rfl (by omega) (by omega) (by decide)
                  · cases hq
  · obtain ⟨⟨q1, q2, q3, q4, q5⟩, q6⟩ := q
    cases v with
    | some v => exact False.elim q1
    | none =>
      have p0 := at_num (p := 274436) (lo := 2) (hi := 2) (q2 _ (List.mem_of_getElem? (i := 0) rfl)) (by decide)
      have p1 := at_num (p := 274439) (lo := 0) (hi := 1600) (q2 _ (List.mem_of_getElem? (i := 1) rfl)) (by decide)
      have p2 := at_num (p := 286721) (lo := 1) (hi := 4) (q2 _ (List.mem_of_getElem? (i := 2) rfl)) (by decide)
      have s_rb : gv h1 274470 = gv h 274470 := gv_fr (q4 _ rfl rfl)
      have s_ln : gv h1 294912 = gv h 294912 := gv_fr (q4 _ rfl rfl)
      have s_D : gv h1 299008 = gv h 299008 := gv_fr (q4 _ rfl rfl)
      have s_M : gv h1 303104 = gv h 303104 := gv_fr (q4 _ rfl rfl)
      have s_A : gv h1 352256 = gv h 352256 := gv_fr (q4 _ rfl rfl)
      have s_B : gv h1 352257 = gv h 352257 := gv_fr (q4 _ rfl rfl)
      have s_T : gv h1 356352 = gv h 356352 := gv_fr (q4 _ rfl rfl)
      have s_W : gv h1 360448 = gv h 360448 := gv_fr (q4 _ rfl rfl)
      have fin : (gv h1 274436 ≠ 0 ∨ se_s0 h + 1 ≤ se_s0 h1) ∧ gv h1 294912 ≤ se_s0 h1 := by
        unfold se_s0 at g4 ⊢
        omega
      exact ⟨rfl, ⟨q3, q5, by omega, by omega, by omega, fin.2, ai_fr_trans g5 (ai_fr_of q4 (by decide))⟩, fin.1⟩
theorem rs_m_readLine_r0_r0_light1 (he : ai_env X B) {h0 h : fx_H} (hS : se_I0 h0 h) (hg : gv h 274436 = 0) (hs16 : se_s0 h ≤ 16) (ht1 : 3 ≤ gv h 274440) (ht2 : gv h 274440 ≤ 3) {nm : Nat} (hn1 : ai_pl h 274442 = some (fl nm)) (hn2 : ai_lo 465624852598 nm) (k352257 : gv h 352257 = 1) : rx_met l X Y B 125 13 [fr 67] h (se_P0 h0 h) := by
  obtain ⟨hI, hP, g1, g2, g3, g4, g5⟩ := hS
  obtain ⟨t1, t2, t3, t4, t5, t6, t7, t8⟩ := se_top0 hI
  refine rx_met_mono (rx_met_deep (by decide : 2 ≤ 13) (ic_m_readLine_r0_r0_light1 he [fr 67] h ⟨rfl, trivial⟩ (fun q hq => ?_) hI hP)) (fun v h1 q => ?_)
  · rcases List.mem_cons.mp hq with rfl | hq
    · exact mo_iv 0 0 hI rfl (by omega) (by omega) (by decide)
    · rcases List.mem_cons.mp hq with rfl | hq
      · exact mo_iv 0 1600 hI rfl (by omega) (by omega) (by decide)
      · rcases List.mem_cons.mp hq with rfl | hq
        · exact mo_iv 3 3 hI rfl (by omega) (by omega) (by decide)
        · rcases List.mem_cons.mp hq with rfl | hq
          · exact ⟨_, hn1, nm, rfl, hn2⟩
          · rcases List.mem_cons.mp hq with rfl | hq
            · exact mo_iv 0 0 hI rfl (by omega) (by omega) (by decide)
            · rcases List.mem_cons.mp hq with rfl | hq
              · exact mo_iv 1 4 hI rfl (by omega) (by omega) (by decide)
              · rcases List.mem_cons.mp hq with rfl | hq
                · exact mo_iv 0 16 hI rfl (by omega) (by omega) (by decide)
                · rcases List.mem_cons.mp hq with rfl | hq
                  · exact mo_iv 1 1 hI rfl (by omega) (by omega) (by decide)
                  · cases hq
  · obtain ⟨⟨q1, q2, q3, q4, q5⟩, q6⟩ := q
    cases v with
    | some v => exact False.elim q1
    | none =>
      have p0 := at_num (p := 274436) (lo := 2) (hi := 2) (q2 _ (List.mem_of_getElem? (i := 0) rfl)) (by decide)
      have p1 := at_num (p := 274439) (lo := 0) (hi := 1600) (q2 _ (List.mem_of_getElem? (i := 1) rfl)) (by decide)
      have p2 := at_num (p := 286721) (lo := 1) (hi := 4) (q2 _ (List.mem_of_getElem? (i := 2) rfl)) (by decide)
      have s_rb : gv h1 274470 = gv h 274470 := gv_fr (q4 _ rfl rfl)
      have s_ln : gv h1 294912 = gv h 294912 := gv_fr (q4 _ rfl rfl)
      have s_D : gv h1 299008 = gv h 299008 := gv_fr (q4 _ rfl rfl)
      have s_M : gv h1 303104 = gv h 303104 := gv_fr (q4 _ rfl rfl)
      have s_A : gv h1 352256 = gv h 352256 := gv_fr (q4 _ rfl rfl)
      have s_B : gv h1 352257 = gv h 352257 := gv_fr (q4 _ rfl rfl)
      have s_T : gv h1 356352 = gv h 356352 := gv_fr (q4 _ rfl rfl)
      have s_W : gv h1 360448 = gv h 360448 := gv_fr (q4 _ rfl rfl)
      have fin : (gv h1 274436 ≠ 0 ∨ se_s0 h + 1 ≤ se_s0 h1) ∧ gv h1 294912 ≤ se_s0 h1 := by
        unfold se_s0 at g4 ⊢
        omega
      exact ⟨rfl, ⟨q3, q5, by omega, by omega, by omega, fin.2, ai_fr_trans g5 (ai_fr_of q4 (by decide))⟩, fin.1⟩
theorem rs_m_readLine_r1_r1_low (he : ai_env X B) {h0 h : fx_H} (hS : se_I1 h0 h) (hg : gv h 274436 = 0) (hs16 : se_s1 h ≤ 16) (ht1 : 0 ≤ gv h 274440) (ht2 : gv h 274440 ≤ 2) : rx_met l X Y B 125 13 [fr 67] h (se_P1 h0 h) := by
  obtain ⟨hI, hP, g1, g2, g3, g4, g5⟩ := hS
  obtain ⟨t1, t2, t3, t4, t5, t6, t7, t8⟩ := se_top1 hI
  refine rx_met_mono (rx_met_deep (by decide : 2 ≤ 13) (ic_m_readLine_r1_r1_low he [fr 67] h ⟨rfl, trivial⟩ (fun q hq => ?_) hI hP)) (fun v h1 q => ?_)
  · rcases List.mem_cons.mp hq with rfl | hq
    · exact mo_iv 0 0 hI rfl (by omega) (by omega) (by decide)
    · rcases List.mem_cons.mp hq with rfl | hq
      · exact mo_iv 0 1600 hI rfl (by omega) (by omega) (by decide)
      · rcases List.mem_cons.mp hq with rfl | hq
        · exact mo_iv 0 2 hI rfl (by omega) (by omega) (by decide)
        · rcases List.mem_cons.mp hq with rfl | hq
          · exact mo_iv 1 1 hI rfl (by omega) (by omega) (by decide)
          · rcases List.mem_cons.mp hq with rfl | hq
            · exact mo_iv 1 4 hI rfl (by omega) (by omega) (by decide)
            · rcases List.mem_cons.mp hq with rfl | hq
              · exact mo_iv 0 16 hI rfl (by omega) (by omega) (by decide)
              · cases hq
  · obtain ⟨⟨q1, q2, q3, q4, q5⟩, q6⟩ := q
    cases v with
    | some v => exact False.elim q1
    | none =>
      have p0 := at_num (p := 274436) (lo := 1) (hi := 2) (q2 _ (List.mem_of_getElem? (i := 0) rfl)) (by decide)
      have p1 := at_num (p := 274439) (lo := 0) (hi := 1600) (q2 _ (List.mem_of_getElem? (i := 1) rfl)) (by decide)
      have p2 := at_num (p := 286721) (lo := 1) (hi := 4) (q2 _ (List.mem_of_getElem? (i := 2) rfl)) (by decide)
      have s_rb : gv h1 274470 = gv h 274470 := gv_fr (q4 _ rfl rfl)
      have s_ln : gv h1 294913 = gv h 294913 := gv_fr (q4 _ rfl rfl)
      have s_D : gv h1 299009 = gv h 299009 := gv_fr (q4 _ rfl rfl)
      have s_M : gv h1 303105 = gv h 303105 := gv_fr (q4 _ rfl rfl)
      have s_A : gv h1 352258 = gv h 352258 := gv_fr (q4 _ rfl rfl)
      have s_B : gv h1 352259 = gv h 352259 := gv_fr (q4 _ rfl rfl)
      have s_T : gv h1 356353 = gv h 356353 := gv_fr (q4 _ rfl rfl)
      have s_W : gv h1 360449 = gv h 360449 := gv_fr (q4 _ rfl rfl)
      have fin : (gv h1 274436 ≠ 0 ∨ se_s1 h + 1 ≤ se_s1 h1) ∧ gv h1 294913 ≤ se_s1 h1 := by
        unfold se_s1 at g4 ⊢
        omega
      exact ⟨rfl, ⟨q3, q5, by omega, by omega, by omega, fin.2, ai_fr_trans g5 (ai_fr_of q4 (by decide))⟩, fin.1⟩
theorem rs_m_readLine_r1_r1_high (he : ai_env X B) {h0 h : fx_H} (hS : se_I1 h0 h) (hg : gv h 274436 = 0) (hs16 : se_s1 h ≤ 16) (ht1 : 4 ≤ gv h 274440) (ht2 : gv h 274440 ≤ 5) : rx_met l X Y B 125 13 [fr 67] h (se_P1 h0 h) := by
  obtain ⟨hI, hP, g1, g2, g3, g4, g5⟩ := hS
  obtain ⟨t1, t2, t3, t4, t5, t6, t7, t8⟩ := se_top1 hI
  refine rx_met_mono (rx_met_deep (by decide : 2 ≤ 13) (ic_m_readLine_r1_r1_high he [fr 67] h ⟨rfl, trivial⟩ (fun q hq => ?_) hI hP)) (fun v h1 q => ?_)
  · rcases List.mem_cons.mp hq with rfl | hq
    · exact mo_iv 0 0 hI rfl (by omega) (by omega) (by decide)
    · rcases List.mem_cons.mp hq with rfl | hq
      · exact mo_iv 0 1600 hI rfl (by omega) (by omega) (by decide)
      · rcases List.mem_cons.mp hq with rfl | hq
        · exact mo_iv 4 5 hI rfl (by omega) (by omega) (by decide)
        · rcases List.mem_cons.mp hq with rfl | hq
          · exact mo_iv 1 1 hI rfl (by omega) (by omega) (by decide)
          · rcases List.mem_cons.mp hq with rfl | hq
            · exact mo_iv 1 4 hI rfl (by omega) (by omega) (by decide)
            · rcases List.mem_cons.mp hq with rfl | hq
              · exact mo_iv 0 16 hI rfl (by omega) (by omega) (by decide)
              · cases hq
  · obtain ⟨⟨q1, q2, q3, q4, q5⟩, q6⟩ := q
    cases v with
    | some v => exact False.elim q1
    | none =>
      have p0 := at_num (p := 274436) (lo := 2) (hi := 2) (q2 _ (List.mem_of_getElem? (i := 0) rfl)) (by decide)
      have p1 := at_num (p := 274439) (lo := 0) (hi := 1600) (q2 _ (List.mem_of_getElem? (i := 1) rfl)) (by decide)
      have p2 := at_num (p := 286721) (lo := 1) (hi := 4) (q2 _ (List.mem_of_getElem? (i := 2) rfl)) (by decide)
      have s_rb : gv h1 274470 = gv h 274470 := gv_fr (q4 _ rfl rfl)
      have s_ln : gv h1 294913 = gv h 294913 := gv_fr (q4 _ rfl rfl)
      have s_D : gv h1 299009 = gv h 299009 := gv_fr (q4 _ rfl rfl)
      have s_M : gv h1 303105 = gv h 303105 := gv_fr (q4 _ rfl rfl)
      have s_A : gv h1 352258 = gv h 352258 := gv_fr (q4 _ rfl rfl)
      have s_B : gv h1 352259 = gv h 352259 := gv_fr (q4 _ rfl rfl)
      have s_T : gv h1 356353 = gv h 356353 := gv_fr (q4 _ rfl rfl)
      have s_W : gv h1 360449 = gv h 360449 := gv_fr (q4 _ rfl rfl)
      have fin : (gv h1 274436 ≠ 0 ∨ se_s1 h + 1 ≤ se_s1 h1) ∧ gv h1 294913 ≤ se_s1 h1 := by
        unfold se_s1 at g4 ⊢
        omega
      exact ⟨rfl, ⟨q3, q5, by omega, by omega, by omega, fin.2, ai_fr_trans g5 (ai_fr_of q4 (by decide))⟩, fin.1⟩
theorem rs_m_readLine_r1_r1_other (he : ai_env X B) {h0 h : fx_H} (hS : se_I1 h0 h) (hg : gv h 274436 = 0) (hs16 : se_s1 h ≤ 16) (ht1 : 3 ≤ gv h 274440) (ht2 : gv h 274440 ≤ 3) {nm : Nat} (hn1 : ai_pl h 274442 = some (fl nm)) (hn2 : ai_lo 1 nm) : rx_met l X Y B 125 13 [fr 67] h (se_P1 h0 h) := by
  obtain ⟨hI, hP, g1, g2, g3, g4, g5⟩ := hS
  obtain ⟨t1, t2, t3, t4, t5, t6, t7, t8⟩ := se_top1 hI
  refine rx_met_mono (rx_met_deep (by decide : 2 ≤ 13) (ic_m_readLine_r1_r1_other he [fr 67] h ⟨rfl, trivial⟩ (fun q hq => ?_) hI hP)) (fun v h1 q => ?_)
  · rcases List.mem_cons.mp hq with rfl | hq
    · exact mo_iv 0 0 hI rfl (by omega) (by omega) (by decide)
    · rcases List.mem_cons.mp hq with rfl | hq
      · exact mo_iv 0 1600 hI rfl (by omega) (by omega) (by decide)
      · rcases List.mem_cons.mp hq with rfl | hq
        · exact mo_iv 3 3 hI rfl (by omega) (by omega) (by decide)
        · rcases List.mem_cons.mp hq with rfl | hq
          · exact ⟨_, hn1, nm, rfl, hn2⟩
          · rcases List.mem_cons.mp hq with rfl | hq
            · exact mo_iv 1 1 hI rfl (by omega) (by omega) (by decide)
            · rcases List.mem_cons.mp hq with rfl | hq
              · exact mo_iv 1 4 hI rfl (by omega) (by omega) (by decide)
              · rcases List.mem_cons.mp hq with rfl | hq
                · exact mo_iv 0 16 hI rfl (by omega) (by omega) (by decide)
                · cases hq
  · obtain ⟨⟨q1, q2, q3, q4, q5⟩, q6⟩ := q
    cases v with
    | some v => exact False.elim q1
    | none =>
      have p0 := at_num (p := 274436) (lo := 2) (hi := 2) (q2 _ (List.mem_of_getElem? (i := 0) rfl)) (by decide)
      have p1 := at_num (p := 274439) (lo := 0) (hi := 1600) (q2 _ (List.mem_of_getElem? (i := 1) rfl)) (by decide)
      have p2 := at_num (p := 286721) (lo := 1) (hi := 4) (q2 _ (List.mem_of_getElem? (i := 2) rfl)) (by decide)
      have s_rb : gv h1 274470 = gv h 274470 := gv_fr (q4 _ rfl rfl)
      have s_ln : gv h1 294913 = gv h 294913 := gv_fr (q4 _ rfl rfl)
      have s_D : gv h1 299009 = gv h 299009 := gv_fr (q4 _ rfl rfl)
      have s_M : gv h1 303105 = gv h 303105 := gv_fr (q4 _ rfl rfl)
      have s_A : gv h1 352258 = gv h 352258 := gv_fr (q4 _ rfl rfl)
      have s_B : gv h1 352259 = gv h 352259 := gv_fr (q4 _ rfl rfl)
      have s_T : gv h1 356353 = gv h 356353 := gv_fr (q4 _ rfl rfl)
      have s_W : gv h1 360449 = gv h 360449 := gv_fr (q4 _ rfl rfl)
      have fin : (gv h1 274436 ≠ 0 ∨ se_s1 h + 1 ≤ se_s1 h1) ∧ gv h1 294913 ≤ se_s1 h1 := by
        unfold se_s1 at g4 ⊢
        omega
      exact ⟨rfl, ⟨q3, q5, by omega, by omega, by omega, fin.2, ai_fr_trans g5 (ai_fr_of q4 (by decide))⟩, fin.1⟩
theorem rs_m_readLine_r1_r1_hall0 (he : ai_env X B) {h0 h : fx_H} (hS : se_I1 h0 h) (hg : gv h 274436 = 0) (hs16 : se_s1 h ≤ 16) (ht1 : 3 ≤ gv h 274440) (ht2 : gv h 274440 ≤ 3) {nm : Nat} (hn1 : ai_pl h 274442 = some (fl nm)) (hn2 : ai_lo 1751215214 nm) (kl : gv h 294913 = 0) : rx_met l X Y B 125 13 [fr 67] h (se_P1 h0 h) := by
  obtain ⟨hI, hP, g1, g2, g3, g4, g5⟩ := hS
  obtain ⟨t1, t2, t3, t4, t5, t6, t7, t8⟩ := se_top1 hI
  refine rx_met_mono (rx_met_deep (by decide : 4 ≤ 13) (ic_m_readLine_r1_r1_hall0 he [fr 67] h ⟨rfl, trivial⟩ (fun q hq => ?_) hI hP)) (fun v h1 q => ?_)
  · rcases List.mem_cons.mp hq with rfl | hq
    · exact mo_iv 0 0 hI rfl (by omega) (by omega) (by decide)
    · rcases List.mem_cons.mp hq with rfl | hq
      · exact mo_iv 0 1600 hI rfl (by omega) (by omega) (by decide)
      · rcases List.mem_cons.mp hq with rfl | hq
        · exact mo_iv 3 3 hI rfl (by omega) (by omega) (by decide)
        · rcases List.mem_cons.mp hq with rfl | hq
          · exact ⟨_, hn1, nm, rfl, hn2⟩
          · rcases List.mem_cons.mp hq with rfl | hq
            · exact mo_iv 1 1 hI rfl (by omega) (by omega) (by decide)
            · rcases List.mem_cons.mp hq with rfl | hq
              · exact mo_iv 1 4 hI rfl (by omega) (by omega) (by decide)
              · rcases List.mem_cons.mp hq with rfl | hq
                · exact mo_iv 0 0 hI rfl (by omega) (by omega) (by decide)
                · cases hq
  · obtain ⟨⟨q1, q2, q3, q4, q5⟩, q6⟩ := q
    cases v with
    | some v => exact False.elim q1
    | none =>
      have p0 := at_num (p := 274439) (lo := 0) (hi := 1600) (q2 _ (List.mem_of_getElem? (i := 0) rfl)) (by decide)
      have p1 := at_num (p := 286721) (lo := 1) (hi := 4) (q2 _ (List.mem_of_getElem? (i := 1) rfl)) (by decide)
      have p2 := at_num (p := 294913) (lo := 1) (hi := 1) (q2 _ (List.mem_of_getElem? (i := 2) rfl)) (by decide)
      have s_rb : gv h1 274470 = gv h 274470 := gv_fr (q4 _ rfl rfl)
      have s_D : gv h1 299009 = gv h 299009 := gv_fr (q4 _ rfl rfl)
      have s_M : gv h1 303105 = gv h 303105 := gv_fr (q4 _ rfl rfl)
      have s_A : gv h1 352258 = gv h 352258 := gv_fr (q4 _ rfl rfl)
      have s_B : gv h1 352259 = gv h 352259 := gv_fr (q4 _ rfl rfl)
      have s_T : gv h1 356353 = gv h 356353 := gv_fr (q4 _ rfl rfl)
      have s_W : gv h1 360449 = gv h 360449 := gv_fr (q4 _ rfl rfl)
      have hl := q6 (294913, 2147483649) List.mem_cons_self
      unfold ai_gr at hl
      simp only at hl
      rw [rb_small (x := gv h 294913) (by omega), rb_small (x := gv h1 294913) (by omega)] at hl
      have fin : (gv h1 274436 ≠ 0 ∨ se_s1 h + 1 ≤ se_s1 h1) ∧ gv h1 294913 ≤ se_s1 h1 := by
        unfold se_s1 at g4 ⊢
        omega
      exact ⟨rfl, ⟨q3, q5, by omega, by omega, by omega, fin.2, ai_fr_trans g5 (ai_fr_of q4 (by decide))⟩, fin.1⟩
theorem rs_m_readLine_r1_r1_hall1 (he : ai_env X B) {h0 h : fx_H} (hS : se_I1 h0 h) (hg : gv h 274436 = 0) (hs16 : se_s1 h ≤ 16) (ht1 : 3 ≤ gv h 274440) (ht2 : gv h 274440 ≤ 3) {nm : Nat} (hn1 : ai_pl h 274442 = some (fl nm)) (hn2 : ai_lo 1751215214 nm) (kl : 1 ≤ gv h 294913) : rx_met l X Y B 125 13 [fr 67] h (se_P1 h0 h) := by
  obtain ⟨hI, hP, g1, g2, g3, g4, g5⟩ := hS
  obtain ⟨t1, t2, t3, t4, t5, t6, t7, t8⟩ := se_top1 hI
  refine rx_met_mono (rx_met_deep (by decide : 2 ≤ 13) (ic_m_readLine_r1_r1_hall1 he [fr 67] h ⟨rfl, trivial⟩ (fun q hq => ?_) hI hP)) (fun v h1 q => ?_)
  · rcases List.mem_cons.mp hq with rfl | hq
    · exact mo_iv 0 0 hI rfl (by omega) (by omega) (by decide)
    · rcases List.mem_cons.mp hq with rfl | hq
      · exact mo_iv 0 1600 hI rfl (by omega) (by omega) (by decide)
      · rcases List.mem_cons.mp hq with rfl | hq
        · exact mo_iv 3 3 hI rfl (by omega) (by omega) (by decide)
        · rcases List.mem_cons.mp hq with rfl | hq
          · exact ⟨_, hn1, nm, rfl, hn2⟩
          · rcases List.mem_cons.mp hq with rfl | hq
            · exact mo_iv 1 1 hI rfl (by omega) (by omega) (by decide)
            · rcases List.mem_cons.mp hq with rfl | hq
              · exact mo_iv 1 4 hI rfl (by omega) (by omega) (by decide)
              · rcases List.mem_cons.mp hq with rfl | hq
                · exact mo_iv 1 16 hI rfl (by omega) (by omega) (by decide)
                · cases hq
  · obtain ⟨⟨q1, q2, q3, q4, q5⟩, q6⟩ := q
    cases v with
    | some v => exact False.elim q1
    | none =>
      have p0 := at_num (p := 274436) (lo := 2) (hi := 2) (q2 _ (List.mem_of_getElem? (i := 0) rfl)) (by decide)
      have p1 := at_num (p := 274439) (lo := 0) (hi := 1600) (q2 _ (List.mem_of_getElem? (i := 1) rfl)) (by decide)
      have p2 := at_num (p := 286721) (lo := 1) (hi := 4) (q2 _ (List.mem_of_getElem? (i := 2) rfl)) (by decide)
      have s_rb : gv h1 274470 = gv h 274470 := gv_fr (q4 _ rfl rfl)
      have s_ln : gv h1 294913 = gv h 294913 := gv_fr (q4 _ rfl rfl)
      have s_D : gv h1 299009 = gv h 299009 := gv_fr (q4 _ rfl rfl)
      have s_M : gv h1 303105 = gv h 303105 := gv_fr (q4 _ rfl rfl)
      have s_A : gv h1 352258 = gv h 352258 := gv_fr (q4 _ rfl rfl)
      have s_B : gv h1 352259 = gv h 352259 := gv_fr (q4 _ rfl rfl)
      have s_T : gv h1 356353 = gv h 356353 := gv_fr (q4 _ rfl rfl)
      have s_W : gv h1 360449 = gv h 360449 := gv_fr (q4 _ rfl rfl)
      have fin : (gv h1 274436 ≠ 0 ∨ se_s1 h + 1 ≤ se_s1 h1) ∧ gv h1 294913 ≤ se_s1 h1 := by
        unfold se_s1 at g4 ⊢
        omega
      exact ⟨rfl, ⟨q3, q5, by omega, by omega, by omega, fin.2, ai_fr_trans g5 (ai_fr_of q4 (by decide))⟩, fin.1⟩
theorem rs_m_readLine_r1_r1_district0 (he : ai_env X B) {h0 h : fx_H} (hS : se_I1 h0 h) (hg : gv h 274436 = 0) (hs16 : se_s1 h ≤ 16) (ht1 : 3 ≤ gv h 274440) (ht2 : gv h 274440 ≤ 3) {nm : Nat} (hn1 : ai_pl h 274442 = some (fl nm)) (hn2 : ai_lo 7235441220320322422 nm) (k299009 : gv h 299009 = 0) : rx_met l X Y B 125 13 [fr 67] h (se_P1 h0 h) := by
  obtain ⟨hI, hP, g1, g2, g3, g4, g5⟩ := hS
  obtain ⟨t1, t2, t3, t4, t5, t6, t7, t8⟩ := se_top1 hI
  refine rx_met_mono (rx_met_deep (by decide : 5 ≤ 13) (ic_m_readLine_r1_r1_district0 he [fr 67] h ⟨rfl, trivial⟩ (fun q hq => ?_) hI hP)) (fun v h1 q => ?_)
  · rcases List.mem_cons.mp hq with rfl | hq
    · exact mo_iv 0 0 hI rfl (by omega) (by omega) (by decide)
    · rcases List.mem_cons.mp hq with rfl | hq
      · exact mo_iv 0 1600 hI rfl (by omega) (by omega) (by decide)
      · rcases List.mem_cons.mp hq with rfl | hq
        · exact mo_iv 3 3 hI rfl (by omega) (by omega) (by decide)
        · rcases List.mem_cons.mp hq with rfl | hq
          · exact ⟨_, hn1, nm, rfl, hn2⟩
          · rcases List.mem_cons.mp hq with rfl | hq
            · exact mo_iv 1 1 hI rfl (by omega) (by omega) (by decide)
            · rcases List.mem_cons.mp hq with rfl | hq
              · exact mo_iv 1 4 hI rfl (by omega) (by omega) (by decide)
              · rcases List.mem_cons.mp hq with rfl | hq
                · exact mo_iv 0 16 hI rfl (by omega) (by omega) (by decide)
                · rcases List.mem_cons.mp hq with rfl | hq
                  · exact mo_iv 0 0 hI rfl (by omega) (by omega) (by decide)
                  · cases hq
  · obtain ⟨⟨q1, q2, q3, q4, q5⟩, q6⟩ := q
    cases v with
    | some v => exact False.elim q1
    | none =>
      have p0 := at_num (p := 274439) (lo := 0) (hi := 1600) (q2 _ (List.mem_of_getElem? (i := 0) rfl)) (by decide)
      have p1 := at_num (p := 286721) (lo := 1) (hi := 4) (q2 _ (List.mem_of_getElem? (i := 1) rfl)) (by decide)
      have p2 := at_num (p := 294913) (lo := 1) (hi := 17) (q2 _ (List.mem_of_getElem? (i := 2) rfl)) (by decide)
      have p3 := at_num (p := 299009) (lo := 1) (hi := 1) (q2 _ (List.mem_of_getElem? (i := 3) rfl)) (by decide)
      have s_rb : gv h1 274470 = gv h 274470 := gv_fr (q4 _ rfl rfl)
      have s_M : gv h1 303105 = gv h 303105 := gv_fr (q4 _ rfl rfl)
      have s_A : gv h1 352258 = gv h 352258 := gv_fr (q4 _ rfl rfl)
      have s_B : gv h1 352259 = gv h 352259 := gv_fr (q4 _ rfl rfl)
      have s_T : gv h1 356353 = gv h 356353 := gv_fr (q4 _ rfl rfl)
      have s_W : gv h1 360449 = gv h 360449 := gv_fr (q4 _ rfl rfl)
      have hl := q6 (294913, 2147483649) List.mem_cons_self
      unfold ai_gr at hl
      simp only at hl
      rw [rb_small (x := gv h 294913) (by omega), rb_small (x := gv h1 294913) (by omega)] at hl
      have fin : (gv h1 274436 ≠ 0 ∨ se_s1 h + 1 ≤ se_s1 h1) ∧ gv h1 294913 ≤ se_s1 h1 := by
        unfold se_s1 at g4 ⊢
        omega
      exact ⟨rfl, ⟨q3, q5, by omega, by omega, by omega, fin.2, ai_fr_trans g5 (ai_fr_of q4 (by decide))⟩, fin.1⟩
theorem rs_m_readLine_r1_r1_district1 (he : ai_env X B) {h0 h : fx_H} (hS : se_I1 h0 h) (hg : gv h 274436 = 0) (hs16 : se_s1 h ≤ 16) (ht1 : 3 ≤ gv h 274440) (ht2 : gv h 274440 ≤ 3) {nm : Nat} (hn1 : ai_pl h 274442 = some (fl nm)) (hn2 : ai_lo 7235441220320322422 nm) (k299009 : gv h 299009 = 1) : rx_met l X Y B 125 13 [fr 67] h (se_P1 h0 h) := by
  obtain ⟨hI, hP, g1, g2, g3, g4, g5⟩ := hS
  obtain ⟨t1, t2, t3, t4, t5, t6, t7, t8⟩ := se_top1 hI
  refine rx_met_mono (rx_met_deep (by decide : 5 ≤ 13) (ic_m_readLine_r1_r1_district1 he [fr 67] h ⟨rfl, trivial⟩ (fun q hq => ?_) hI hP)) (fun v h1 q => ?_)
  · rcases List.mem_cons.mp hq with rfl | hq
    · exact mo_iv 0 0 hI rfl (by omega) (by omega) (by decide)
    · rcases List.mem_cons.mp hq with rfl | hq
      · exact mo_iv 0 1600 hI rfl (by omega) (by omega) (by decide)
      · rcases List.mem_cons.mp hq with rfl | hq
        · exact mo_iv 3 3 hI rfl (by omega) (by omega) (by decide)
        · rcases List.mem_cons.mp hq with rfl | hq
          · exact ⟨_, hn1, nm, rfl, hn2⟩
          · rcases List.mem_cons.mp hq with rfl | hq
            · exact mo_iv 1 1 hI rfl (by omega) (by omega) (by decide)
            · rcases List.mem_cons.mp hq with rfl | hq
              · exact mo_iv 1 4 hI rfl (by omega) (by omega) (by decide)
              · rcases List.mem_cons.mp hq with rfl | hq
                · exact mo_iv 0 16 hI rfl (by omega) (by omega) (by decide)
                · rcases List.mem_cons.mp hq with rfl | hq
                  · exact mo_iv 1 1 hI rfl (by omega) (by omega) (by decide)
                  · cases hq
  · obtain ⟨⟨q1, q2, q3, q4, q5⟩, q6⟩ := q
    cases v with
    | some v => exact False.elim q1
    | none =>
      have p0 := at_num (p := 274439) (lo := 0) (hi := 1600) (q2 _ (List.mem_of_getElem? (i := 0) rfl)) (by decide)
      have p1 := at_num (p := 286721) (lo := 1) (hi := 4) (q2 _ (List.mem_of_getElem? (i := 1) rfl)) (by decide)
      have p2 := at_num (p := 294913) (lo := 1) (hi := 17) (q2 _ (List.mem_of_getElem? (i := 2) rfl)) (by decide)
      have p3 := at_num (p := 299009) (lo := 2) (hi := 2) (q2 _ (List.mem_of_getElem? (i := 3) rfl)) (by decide)
      have s_rb : gv h1 274470 = gv h 274470 := gv_fr (q4 _ rfl rfl)
      have s_M : gv h1 303105 = gv h 303105 := gv_fr (q4 _ rfl rfl)
      have s_A : gv h1 352258 = gv h 352258 := gv_fr (q4 _ rfl rfl)
      have s_B : gv h1 352259 = gv h 352259 := gv_fr (q4 _ rfl rfl)
      have s_T : gv h1 356353 = gv h 356353 := gv_fr (q4 _ rfl rfl)
      have s_W : gv h1 360449 = gv h 360449 := gv_fr (q4 _ rfl rfl)
      have hl := q6 (294913, 2147483649) List.mem_cons_self
      unfold ai_gr at hl
      simp only at hl
      rw [rb_small (x := gv h 294913) (by omega), rb_small (x := gv h1 294913) (by omega)] at hl
      have fin : (gv h1 274436 ≠ 0 ∨ se_s1 h + 1 ≤ se_s1 h1) ∧ gv h1 294913 ≤ se_s1 h1 := by
        unfold se_s1 at g4 ⊢
        omega
      exact ⟨rfl, ⟨q3, q5, by omega, by omega, by omega, fin.2, ai_fr_trans g5 (ai_fr_of q4 (by decide))⟩, fin.1⟩
theorem rs_m_readLine_r1_r1_district2 (he : ai_env X B) {h0 h : fx_H} (hS : se_I1 h0 h) (hg : gv h 274436 = 0) (hs16 : se_s1 h ≤ 16) (ht1 : 3 ≤ gv h 274440) (ht2 : gv h 274440 ≤ 3) {nm : Nat} (hn1 : ai_pl h 274442 = some (fl nm)) (hn2 : ai_lo 7235441220320322422 nm) (k299009 : gv h 299009 = 2) : rx_met l X Y B 125 13 [fr 67] h (se_P1 h0 h) := by
  obtain ⟨hI, hP, g1, g2, g3, g4, g5⟩ := hS
  obtain ⟨t1, t2, t3, t4, t5, t6, t7, t8⟩ := se_top1 hI
  refine rx_met_mono (rx_met_deep (by decide : 5 ≤ 13) (ic_m_readLine_r1_r1_district2 he [fr 67] h ⟨rfl, trivial⟩ (fun q hq => ?_) hI hP)) (fun v h1 q => ?_)
  · rcases List.mem_cons.mp hq with rfl | hq
    · exact mo_iv 0 0 hI rfl (by omega) (by omega) (by decide)
    · rcases List.mem_cons.mp hq with rfl | hq
      · exact mo_iv 0 1600 hI rfl (by omega) (by omega) (by decide)
      · rcases List.mem_cons.mp hq with rfl | hq
        · exact mo_iv 3 3 hI rfl (by omega) (by omega) (by decide)
        · rcases List.mem_cons.mp hq with rfl | hq
          · exact ⟨_, hn1, nm, rfl, hn2⟩
          · rcases List.mem_cons.mp hq with rfl | hq
            · exact mo_iv 1 1 hI rfl (by omega) (by omega) (by decide)
            · rcases List.mem_cons.mp hq with rfl | hq
              · exact mo_iv 1 4 hI rfl (by omega) (by omega) (by decide)
              · rcases List.mem_cons.mp hq with rfl | hq
                · exact mo_iv 0 16 hI rfl (by omega) (by omega) (by decide)
                · rcases List.mem_cons.mp hq with rfl | hq
                  · exact mo_iv 2 2 hI rfl (by omega) (by omega) (by decide)
                  · cases hq
  · obtain ⟨⟨q1, q2, q3, q4, q5⟩, q6⟩ := q
    cases v with
    | some v => exact False.elim q1
    | none =>
      have p0 := at_num (p := 274439) (lo := 0) (hi := 1600) (q2 _ (List.mem_of_getElem? (i := 0) rfl)) (by decide)
      have p1 := at_num (p := 286721) (lo := 1) (hi := 4) (q2 _ (List.mem_of_getElem? (i := 1) rfl)) (by decide)
      have p2 := at_num (p := 294913) (lo := 1) (hi := 17) (q2 _ (List.mem_of_getElem? (i := 2) rfl)) (by decide)
      have p3 := at_num (p := 299009) (lo := 3) (hi := 3) (q2 _ (List.mem_of_getElem? (i := 3) rfl)) (by decide)
      have s_rb : gv h1 274470 = gv h 274470 := gv_fr (q4 _ rfl rfl)
      have s_M : gv h1 303105 = gv h 303105 := gv_fr (q4 _ rfl rfl)
      have s_A : gv h1 352258 = gv h 352258 := gv_fr (q4 _ rfl rfl)
      have s_B : gv h1 352259 = gv h 352259 := gv_fr (q4 _ rfl rfl)
      have s_T : gv h1 356353 = gv h 356353 := gv_fr (q4 _ rfl rfl)
      have s_W : gv h1 360449 = gv h 360449 := gv_fr (q4 _ rfl rfl)
      have hl := q6 (294913, 2147483649) List.mem_cons_self
      unfold ai_gr at hl
      simp only at hl
      rw [rb_small (x := gv h 294913) (by omega), rb_small (x := gv h1 294913) (by omega)] at hl
      have fin : (gv h1 274436 ≠ 0 ∨ se_s1 h + 1 ≤ se_s1 h1) ∧ gv h1 294913 ≤ se_s1 h1 := by
        unfold se_s1 at g4 ⊢
        omega
      exact ⟨rfl, ⟨q3, q5, by omega, by omega, by omega, fin.2, ai_fr_trans g5 (ai_fr_of q4 (by decide))⟩, fin.1⟩
theorem rs_m_readLine_r1_r1_district3 (he : ai_env X B) {h0 h : fx_H} (hS : se_I1 h0 h) (hg : gv h 274436 = 0) (hs16 : se_s1 h ≤ 16) (ht1 : 3 ≤ gv h 274440) (ht2 : gv h 274440 ≤ 3) {nm : Nat} (hn1 : ai_pl h 274442 = some (fl nm)) (hn2 : ai_lo 7235441220320322422 nm) (k299009 : gv h 299009 = 3) : rx_met l X Y B 125 13 [fr 67] h (se_P1 h0 h) := by
  obtain ⟨hI, hP, g1, g2, g3, g4, g5⟩ := hS
  obtain ⟨t1, t2, t3, t4, t5, t6, t7, t8⟩ := se_top1 hI
  refine rx_met_mono (rx_met_deep (by decide : 5 ≤ 13) (ic_m_readLine_r1_r1_district3 he [fr 67] h ⟨rfl, trivial⟩ (fun q hq => ?_) hI hP)) (fun v h1 q => ?_)
  · rcases List.mem_cons.mp hq with rfl | hq
    · exact mo_iv 0 0 hI rfl (by omega) (by omega) (by decide)
    · rcases List.mem_cons.mp hq with rfl | hq
      · exact mo_iv 0 1600 hI rfl (by omega) (by omega) (by decide)
      · rcases List.mem_cons.mp hq with rfl | hq
        · exact mo_iv 3 3 hI rfl (by omega) (by omega) (by decide)
        · rcases List.mem_cons.mp hq with rfl | hq
          · exact ⟨_, hn1, nm, rfl, hn2⟩
          · rcases List.mem_cons.mp hq with rfl | hq
            · exact mo_iv 1 1 hI rfl (by omega) (by omega) (by decide)
            · rcases List.mem_cons.mp hq with rfl | hq
              · exact mo_iv 1 4 hI rfl (by omega) (by omega) (by decide)
              · rcases List.mem_cons.mp hq with rfl | hq
                · exact mo_iv 0 16 hI rfl (by omega) (by omega) (by decide)
                · rcases List.mem_cons.mp hq with rfl | hq
                  · exact mo_iv 3 3 hI rfl (by omega) (by omega) (by decide)
                  · cases hq
  · obtain ⟨⟨q1, q2, q3, q4, q5⟩, q6⟩ := q
    cases v with
    | some v => exact False.elim q1
    | none =>
      have p0 := at_num (p := 274439) (lo := 0) (hi := 1600) (q2 _ (List.mem_of_getElem? (i := 0) rfl)) (by decide)
      have p1 := at_num (p := 286721) (lo := 1) (hi := 4) (q2 _ (List.mem_of_getElem? (i := 1) rfl)) (by decide)
      have p2 := at_num (p := 294913) (lo := 1) (hi := 17) (q2 _ (List.mem_of_getElem? (i := 2) rfl)) (by decide)
      have p3 := at_num (p := 299009) (lo := 4) (hi := 4) (q2 _ (List.mem_of_getElem? (i := 3) rfl)) (by decide)
      have s_rb : gv h1 274470 = gv h 274470 := gv_fr (q4 _ rfl rfl)
      have s_M : gv h1 303105 = gv h 303105 := gv_fr (q4 _ rfl rfl)
      have s_A : gv h1 352258 = gv h 352258 := gv_fr (q4 _ rfl rfl)
      have s_B : gv h1 352259 = gv h 352259 := gv_fr (q4 _ rfl rfl)
      have s_T : gv h1 356353 = gv h 356353 := gv_fr (q4 _ rfl rfl)
      have s_W : gv h1 360449 = gv h 360449 := gv_fr (q4 _ rfl rfl)
      have hl := q6 (294913, 2147483649) List.mem_cons_self
      unfold ai_gr at hl
      simp only at hl
      rw [rb_small (x := gv h 294913) (by omega), rb_small (x := gv h1 294913) (by omega)] at hl
      have fin : (gv h1 274436 ≠ 0 ∨ se_s1 h + 1 ≤ se_s1 h1) ∧ gv h1 294913 ≤ se_s1 h1 := by
        unfold se_s1 at g4 ⊢
        omega
      exact ⟨rfl, ⟨q3, q5, by omega, by omega, by omega, fin.2, ai_fr_trans g5 (ai_fr_of q4 (by decide))⟩, fin.1⟩
theorem rs_m_readLine_r1_r1_district4 (he : ai_env X B) {h0 h : fx_H} (hS : se_I1 h0 h) (hg : gv h 274436 = 0) (hs16 : se_s1 h ≤ 16) (ht1 : 3 ≤ gv h 274440) (ht2 : gv h 274440 ≤ 3) {nm : Nat} (hn1 : ai_pl h 274442 = some (fl nm)) (hn2 : ai_lo 7235441220320322422 nm) (k299009 : gv h 299009 = 4) : rx_met l X Y B 125 13 [fr 67] h (se_P1 h0 h) := by
  obtain ⟨hI, hP, g1, g2, g3, g4, g5⟩ := hS
  obtain ⟨t1, t2, t3, t4, t5, t6, t7, t8⟩ := se_top1 hI
  refine rx_met_mono (rx_met_deep (by decide : 2 ≤ 13) (ic_m_readLine_r1_r1_district4 he [fr 67] h ⟨rfl, trivial⟩ (fun q hq => ?_) hI hP)) (fun v h1 q => ?_)
  · rcases List.mem_cons.mp hq with rfl | hq
    · exact mo_iv 0 0 hI rfl (by omega) (by omega) (by decide)
    · rcases List.mem_cons.mp hq with rfl | hq
      · exact mo_iv 0 1600 hI rfl (by omega) (by omega) (by decide)
      · rcases List.mem_cons.mp hq with rfl | hq
        · exact mo_iv 3 3 hI rfl (by omega) (by omega) (by decide)
        · rcases List.mem_cons.mp hq with rfl | hq
          · exact ⟨_, hn1, nm, rfl, hn2⟩
          · rcases List.mem_cons.mp hq with rfl | hq
            · exact mo_iv 1 1 hI rfl (by omega) (by omega) (by decide)
            · rcases List.mem_cons.mp hq with rfl | hq
              · exact mo_iv 1 4 hI rfl (by omega) (by omega) (by decide)
              · rcases List.mem_cons.mp hq with rfl | hq
                · exact mo_iv 0 16 hI rfl (by omega) (by omega) (by decide)
                · rcases List.mem_cons.mp hq with rfl | hq
                  · exact mo_iv 4 4 hI rfl (by omega) (by omega) (by decide)
                  · cases hq
  · obtain ⟨⟨q1, q2, q3, q4, q5⟩, q6⟩ := q
    cases v with
    | some v => exact False.elim q1
    | none =>
      have p0 := at_num (p := 274436) (lo := 2) (hi := 2) (q2 _ (List.mem_of_getElem? (i := 0) rfl)) (by decide)
      have p1 := at_num (p := 274439) (lo := 0) (hi := 1600) (q2 _ (List.mem_of_getElem? (i := 1) rfl)) (by decide)
      have p2 := at_num (p := 286721) (lo := 1) (hi := 4) (q2 _ (List.mem_of_getElem? (i := 2) rfl)) (by decide)
      have s_rb : gv h1 274470 = gv h 274470 := gv_fr (q4 _ rfl rfl)
      have s_ln : gv h1 294913 = gv h 294913 := gv_fr (q4 _ rfl rfl)
      have s_D : gv h1 299009 = gv h 299009 := gv_fr (q4 _ rfl rfl)
      have s_M : gv h1 303105 = gv h 303105 := gv_fr (q4 _ rfl rfl)
      have s_A : gv h1 352258 = gv h 352258 := gv_fr (q4 _ rfl rfl)
      have s_B : gv h1 352259 = gv h 352259 := gv_fr (q4 _ rfl rfl)
      have s_T : gv h1 356353 = gv h 356353 := gv_fr (q4 _ rfl rfl)
      have s_W : gv h1 360449 = gv h 360449 := gv_fr (q4 _ rfl rfl)
      have fin : (gv h1 274436 ≠ 0 ∨ se_s1 h + 1 ≤ se_s1 h1) ∧ gv h1 294913 ≤ se_s1 h1 := by
        unfold se_s1 at g4 ⊢
        omega
      exact ⟨rfl, ⟨q3, q5, by omega, by omega, by omega, fin.2, ai_fr_trans g5 (ai_fr_of q4 (by decide))⟩, fin.1⟩
theorem rs_m_readLine_r1_r1_member0 (he : ai_env X B) {h0 h : fx_H} (hS : se_I1 h0 h) (hg : gv h 274436 = 0) (hs16 : se_s1 h ≤ 16) (ht1 : 3 ≤ gv h 274440) (ht2 : gv h 274440 ≤ 3) {nm : Nat} (hn1 : ai_pl h 274442 = some (fl nm)) (hn2 : ai_lo 120282394289524 nm) (k303105 : gv h 303105 = 0) : rx_met l X Y B 125 13 [fr 67] h (se_P1 h0 h) := by
  obtain ⟨hI, hP, g1, g2, g3, g4, g5⟩ := hS
  obtain ⟨t1, t2, t3, t4, t5, t6, t7, t8⟩ := se_top1 hI
  refine rx_met_mono (rx_met_deep (by decide : 5 ≤ 13) (ic_m_readLine_r1_r1_member0 he [fr 67] h ⟨rfl, trivial⟩ (fun q hq => ?_) hI hP)) (fun v h1 q => ?_)
  · rcases List.mem_cons.mp hq with rfl | hq
    · exact mo_iv 0 0 hI rfl (by omega) (by omega) (by decide)
    · rcases List.mem_cons.mp hq with rfl | hq
      · exact mo_iv 0 1600 hI rfl (by omega) (by omega) (by decide)
      · rcases List.mem_cons.mp hq with rfl | hq
        · exact mo_iv 3 3 hI rfl (by omega) (by omega) (by decide)
        · rcases List.mem_cons.mp hq with rfl | hq
          · exact ⟨_, hn1, nm, rfl, hn2⟩
          · rcases List.mem_cons.mp hq with rfl | hq
            · exact mo_iv 1 1 hI rfl (by omega) (by omega) (by decide)
            · rcases List.mem_cons.mp hq with rfl | hq
              · exact mo_iv 1 4 hI rfl (by omega) (by omega) (by decide)
              · rcases List.mem_cons.mp hq with rfl | hq
                · exact mo_iv 0 16 hI rfl (by omega) (by omega) (by decide)
                · rcases List.mem_cons.mp hq with rfl | hq
                  · exact mo_iv 0 0 hI rfl (by omega) (by omega) (by decide)
                  · cases hq
  · obtain ⟨⟨q1, q2, q3, q4, q5⟩, q6⟩ := q
    cases v with
    | some v => exact False.elim q1
    | none =>
      have p0 := at_num (p := 274439) (lo := 0) (hi := 1600) (q2 _ (List.mem_of_getElem? (i := 0) rfl)) (by decide)
      have p1 := at_num (p := 286721) (lo := 1) (hi := 4) (q2 _ (List.mem_of_getElem? (i := 1) rfl)) (by decide)
      have p2 := at_num (p := 294913) (lo := 1) (hi := 17) (q2 _ (List.mem_of_getElem? (i := 2) rfl)) (by decide)
      have p3 := at_num (p := 303105) (lo := 1) (hi := 1) (q2 _ (List.mem_of_getElem? (i := 3) rfl)) (by decide)
      have s_rb : gv h1 274470 = gv h 274470 := gv_fr (q4 _ rfl rfl)
      have s_D : gv h1 299009 = gv h 299009 := gv_fr (q4 _ rfl rfl)
      have s_A : gv h1 352258 = gv h 352258 := gv_fr (q4 _ rfl rfl)
      have s_B : gv h1 352259 = gv h 352259 := gv_fr (q4 _ rfl rfl)
      have s_T : gv h1 356353 = gv h 356353 := gv_fr (q4 _ rfl rfl)
      have s_W : gv h1 360449 = gv h 360449 := gv_fr (q4 _ rfl rfl)
      have hl := q6 (294913, 2147483649) List.mem_cons_self
      unfold ai_gr at hl
      simp only at hl
      rw [rb_small (x := gv h 294913) (by omega), rb_small (x := gv h1 294913) (by omega)] at hl
      have fin : (gv h1 274436 ≠ 0 ∨ se_s1 h + 1 ≤ se_s1 h1) ∧ gv h1 294913 ≤ se_s1 h1 := by
        unfold se_s1 at g4 ⊢
        omega
      exact ⟨rfl, ⟨q3, q5, by omega, by omega, by omega, fin.2, ai_fr_trans g5 (ai_fr_of q4 (by decide))⟩, fin.1⟩
theorem rs_m_readLine_r1_r1_member1 (he : ai_env X B) {h0 h : fx_H} (hS : se_I1 h0 h) (hg : gv h 274436 = 0) (hs16 : se_s1 h ≤ 16) (ht1 : 3 ≤ gv h 274440) (ht2 : gv h 274440 ≤ 3) {nm : Nat} (hn1 : ai_pl h 274442 = some (fl nm)) (hn2 : ai_lo 120282394289524 nm) (k303105 : gv h 303105 = 1) : rx_met l X Y B 125 13 [fr 67] h (se_P1 h0 h) := by
  obtain ⟨hI, hP, g1, g2, g3, g4, g5⟩ := hS
  obtain ⟨t1, t2, t3, t4, t5, t6, t7, t8⟩ := se_top1 hI
  refine rx_met_mono (rx_met_deep (by decide : 5 ≤ 13) (ic_m_readLine_r1_r1_member1 he [fr 67] h ⟨rfl, trivial⟩ (fun q hq => ?_) hI hP)) (fun v h1 q => ?_)
  · rcases List.mem_cons.mp hq with rfl | hq
    · exact mo_iv 0 0 hI rfl (by omega) (by omega) (by decide)
    · rcases List.mem_cons.mp hq with rfl | hq
      · exact mo_iv 0 1600 hI rfl (by omega) (by omega) (by decide)
      · rcases List.mem_cons.mp hq with rfl | hq
        · exact mo_iv 3 3 hI rfl (by omega) (by omega) (by decide)
        · rcases List.mem_cons.mp hq with rfl | hq
          · exact ⟨_, hn1, nm, rfl, hn2⟩
          · rcases List.mem_cons.mp hq with rfl | hq
            · exact mo_iv 1 1 hI rfl (by omega) (by omega) (by decide)
            · rcases List.mem_cons.mp hq with rfl | hq
              · exact mo_iv 1 4 hI rfl (by omega) (by omega) (by decide)
              · rcases List.mem_cons.mp hq with rfl | hq
                · exact mo_iv 0 16 hI rfl (by omega) (by omega) (by decide)
                · rcases List.mem_cons.mp hq with rfl | hq
                  · exact mo_iv 1 1 hI rfl (by omega) (by omega) (by decide)
                  · cases hq
  · obtain ⟨⟨q1, q2, q3, q4, q5⟩, q6⟩ := q
    cases v with
    | some v => exact False.elim q1
    | none =>
      have p0 := at_num (p := 274439) (lo := 0) (hi := 1600) (q2 _ (List.mem_of_getElem? (i := 0) rfl)) (by decide)
      have p1 := at_num (p := 286721) (lo := 1) (hi := 4) (q2 _ (List.mem_of_getElem? (i := 1) rfl)) (by decide)
      have p2 := at_num (p := 294913) (lo := 1) (hi := 17) (q2 _ (List.mem_of_getElem? (i := 2) rfl)) (by decide)
      have p3 := at_num (p := 303105) (lo := 2) (hi := 2) (q2 _ (List.mem_of_getElem? (i := 3) rfl)) (by decide)
      have s_rb : gv h1 274470 = gv h 274470 := gv_fr (q4 _ rfl rfl)
      have s_D : gv h1 299009 = gv h 299009 := gv_fr (q4 _ rfl rfl)
      have s_A : gv h1 352258 = gv h 352258 := gv_fr (q4 _ rfl rfl)
      have s_B : gv h1 352259 = gv h 352259 := gv_fr (q4 _ rfl rfl)
      have s_T : gv h1 356353 = gv h 356353 := gv_fr (q4 _ rfl rfl)
      have s_W : gv h1 360449 = gv h 360449 := gv_fr (q4 _ rfl rfl)
      have hl := q6 (294913, 2147483649) List.mem_cons_self
      unfold ai_gr at hl
      simp only at hl
      rw [rb_small (x := gv h 294913) (by omega), rb_small (x := gv h1 294913) (by omega)] at hl
      have fin : (gv h1 274436 ≠ 0 ∨ se_s1 h + 1 ≤ se_s1 h1) ∧ gv h1 294913 ≤ se_s1 h1 := by
        unfold se_s1 at g4 ⊢
        omega
      exact ⟨rfl, ⟨q3, q5, by omega, by omega, by omega, fin.2, ai_fr_trans g5 (ai_fr_of q4 (by decide))⟩, fin.1⟩
theorem rs_m_readLine_r1_r1_member2 (he : ai_env X B) {h0 h : fx_H} (hS : se_I1 h0 h) (hg : gv h 274436 = 0) (hs16 : se_s1 h ≤ 16) (ht1 : 3 ≤ gv h 274440) (ht2 : gv h 274440 ≤ 3) {nm : Nat} (hn1 : ai_pl h 274442 = some (fl nm)) (hn2 : ai_lo 120282394289524 nm) (k303105 : gv h 303105 = 2) : rx_met l X Y B 125 13 [fr 67] h (se_P1 h0 h) := by
  obtain ⟨hI, hP, g1, g2, g3, g4, g5⟩ := hS
  obtain ⟨t1, t2, t3, t4, t5, t6, t7, t8⟩ := se_top1 hI
  refine rx_met_mono (rx_met_deep (by decide : 5 ≤ 13) (ic_m_readLine_r1_r1_member2 he [fr 67] h ⟨rfl, trivial⟩ (fun q hq => ?_) hI hP)) (fun v h1 q => ?_)
  · rcases List.mem_cons.mp hq with rfl | hq
    · exact mo_iv 0 0 hI rfl (by omega) (by omega) (by decide)
    · rcases List.mem_cons.mp hq with rfl | hq
      · exact mo_iv 0 1600 hI rfl (by omega) (by omega) (by decide)
      · rcases List.mem_cons.mp hq with rfl | hq
        · exact mo_iv 3 3 hI rfl (by omega) (by omega) (by decide)
        · rcases List.mem_cons.mp hq with rfl | hq
          · exact ⟨_, hn1, nm, rfl, hn2⟩
          · rcases List.mem_cons.mp hq with rfl | hq
            · exact mo_iv 1 1 hI rfl (by omega) (by omega) (by decide)
            · rcases List.mem_cons.mp hq with rfl | hq
              · exact mo_iv 1 4 hI rfl (by omega) (by omega) (by decide)
              · rcases List.mem_cons.mp hq with rfl | hq
                · exact mo_iv 0 16 hI rfl (by omega) (by omega) (by decide)
                · rcases List.mem_cons.mp hq with rfl | hq
                  · exact mo_iv 2 2 hI rfl (by omega) (by omega) (by decide)
                  · cases hq
  · obtain ⟨⟨q1, q2, q3, q4, q5⟩, q6⟩ := q
    cases v with
    | some v => exact False.elim q1
    | none =>
      have p0 := at_num (p := 274439) (lo := 0) (hi := 1600) (q2 _ (List.mem_of_getElem? (i := 0) rfl)) (by decide)
      have p1 := at_num (p := 286721) (lo := 1) (hi := 4) (q2 _ (List.mem_of_getElem? (i := 1) rfl)) (by decide)
      have p2 := at_num (p := 294913) (lo := 1) (hi := 17) (q2 _ (List.mem_of_getElem? (i := 2) rfl)) (by decide)
      have p3 := at_num (p := 303105) (lo := 3) (hi := 3) (q2 _ (List.mem_of_getElem? (i := 3) rfl)) (by decide)
      have s_rb : gv h1 274470 = gv h 274470 := gv_fr (q4 _ rfl rfl)
      have s_D : gv h1 299009 = gv h 299009 := gv_fr (q4 _ rfl rfl)
      have s_A : gv h1 352258 = gv h 352258 := gv_fr (q4 _ rfl rfl)
      have s_B : gv h1 352259 = gv h 352259 := gv_fr (q4 _ rfl rfl)
      have s_T : gv h1 356353 = gv h 356353 := gv_fr (q4 _ rfl rfl)
      have s_W : gv h1 360449 = gv h 360449 := gv_fr (q4 _ rfl rfl)
      have hl := q6 (294913, 2147483649) List.mem_cons_self
      unfold ai_gr at hl
      simp only at hl
      rw [rb_small (x := gv h 294913) (by omega), rb_small (x := gv h1 294913) (by omega)] at hl
      have fin : (gv h1 274436 ≠ 0 ∨ se_s1 h + 1 ≤ se_s1 h1) ∧ gv h1 294913 ≤ se_s1 h1 := by
        unfold se_s1 at g4 ⊢
        omega
      exact ⟨rfl, ⟨q3, q5, by omega, by omega, by omega, fin.2, ai_fr_trans g5 (ai_fr_of q4 (by decide))⟩, fin.1⟩
theorem rs_m_readLine_r1_r1_member3 (he : ai_env X B) {h0 h : fx_H} (hS : se_I1 h0 h) (hg : gv h 274436 = 0) (hs16 : se_s1 h ≤ 16) (ht1 : 3 ≤ gv h 274440) (ht2 : gv h 274440 ≤ 3) {nm : Nat} (hn1 : ai_pl h 274442 = some (fl nm)) (hn2 : ai_lo 120282394289524 nm) (k303105 : gv h 303105 = 3) : rx_met l X Y B 125 13 [fr 67] h (se_P1 h0 h) := by
  obtain ⟨hI, hP, g1, g2, g3, g4, g5⟩ := hS
  obtain ⟨t1, t2, t3, t4, t5, t6, t7, t8⟩ := se_top1 hI
  refine rx_met_mono (rx_met_deep (by decide : 5 ≤ 13) (ic_m_readLine_r1_r1_member3 he [fr 67] h ⟨rfl, trivial⟩ (fun q hq => ?_) hI hP)) (fun v h1 q => ?_)
  · rcases List.mem_cons.mp hq with rfl | hq
    · exact mo_iv 0 0 hI rfl (by omega) (by omega) (by decide)
    · rcases List.mem_cons.mp hq with rfl | hq
      · exact mo_iv 0 1600 hI rfl (by omega) (by omega) (by decide)
      · rcases List.mem_cons.mp hq with rfl | hq
        · exact mo_iv 3 3 hI rfl (by omega) (by omega) (by decide)
        · rcases List.mem_cons.mp hq with rfl | hq
          · exact ⟨_, hn1, nm, rfl, hn2⟩
          · rcases List.mem_cons.mp hq with rfl | hq
            · exact mo_iv 1 1 hI rfl (by omega) (by omega) (by decide)
            · rcases List.mem_cons.mp hq with rfl | hq
              · exact mo_iv 1 4 hI rfl (by omega) (by omega) (by decide)
              · rcases List.mem_cons.mp hq with rfl | hq
                · exact mo_iv 0 16 hI rfl (by omega) (by omega) (by decide)
                · rcases List.mem_cons.mp hq with rfl | hq
                  · exact mo_iv 3 3 hI rfl (by omega) (by omega) (by decide)
                  · cases hq
  · obtain ⟨⟨q1, q2, q3, q4, q5⟩, q6⟩ := q
    cases v with
    | some v => exact False.elim q1
    | none =>
      have p0 := at_num (p := 274439) (lo := 0) (hi := 1600) (q2 _ (List.mem_of_getElem? (i := 0) rfl)) (by decide)
      have p1 := at_num (p := 286721) (lo := 1) (hi := 4) (q2 _ (List.mem_of_getElem? (i := 1) rfl)) (by decide)
      have p2 := at_num (p := 294913) (lo := 1) (hi := 17) (q2 _ (List.mem_of_getElem? (i := 2) rfl)) (by decide)
      have p3 := at_num (p := 303105) (lo := 4) (hi := 4) (q2 _ (List.mem_of_getElem? (i := 3) rfl)) (by decide)
      have s_rb : gv h1 274470 = gv h 274470 := gv_fr (q4 _ rfl rfl)
      have s_D : gv h1 299009 = gv h 299009 := gv_fr (q4 _ rfl rfl)
      have s_A : gv h1 352258 = gv h 352258 := gv_fr (q4 _ rfl rfl)
      have s_B : gv h1 352259 = gv h 352259 := gv_fr (q4 _ rfl rfl)
      have s_T : gv h1 356353 = gv h 356353 := gv_fr (q4 _ rfl rfl)
      have s_W : gv h1 360449 = gv h 360449 := gv_fr (q4 _ rfl rfl)
      have hl := q6 (294913, 2147483649) List.mem_cons_self
      unfold ai_gr at hl
      simp only at hl
      rw [rb_small (x := gv h 294913) (by omega), rb_small (x := gv h1 294913) (by omega)] at hl
      have fin : (gv h1 274436 ≠ 0 ∨ se_s1 h + 1 ≤ se_s1 h1) ∧ gv h1 294913 ≤ se_s1 h1 := by
        unfold se_s1 at g4 ⊢
        omega
      exact ⟨rfl, ⟨q3, q5, by omega, by omega, by omega, fin.2, ai_fr_trans g5 (ai_fr_of q4 (by decide))⟩, fin.1⟩
theorem rs_m_readLine_r1_r1_member4 (he : ai_env X B) {h0 h : fx_H} (hS : se_I1 h0 h) (hg : gv h 274436 = 0) (hs16 : se_s1 h ≤ 16) (ht1 : 3 ≤ gv h 274440) (ht2 : gv h 274440 ≤ 3) {nm : Nat} (hn1 : ai_pl h 274442 = some (fl nm)) (hn2 : ai_lo 120282394289524 nm) (k303105 : gv h 303105 = 4) : rx_met l X Y B 125 13 [fr 67] h (se_P1 h0 h) := by
  obtain ⟨hI, hP, g1, g2, g3, g4, g5⟩ := hS
  obtain ⟨t1, t2, t3, t4, t5, t6, t7, t8⟩ := se_top1 hI
  refine rx_met_mono (rx_met_deep (by decide : 5 ≤ 13) (ic_m_readLine_r1_r1_member4 he [fr 67] h ⟨rfl, trivial⟩ (fun q hq => ?_) hI hP)) (fun v h1 q => ?_)
  · rcases List.mem_cons.mp hq with rfl | hq
    · exact mo_iv 0 0 hI rfl (by omega) (by omega) (by decide)
    · rcases List.mem_cons.mp hq with rfl | hq
      · exact mo_iv 0 1600 hI rfl (by omega) (by omega) (by decide)
      · rcases List.mem_cons.mp hq with rfl | hq
        · exact mo_iv 3 3 hI rfl (by omega) (by omega) (by decide)
        · rcases List.mem_cons.mp hq with rfl | hq
          · exact ⟨_, hn1, nm, rfl, hn2⟩
          · rcases List.mem_cons.mp hq with rfl | hq
            · exact mo_iv 1 1 hI rfl (by omega) (by omega) (by decide)
            · rcases List.mem_cons.mp hq with rfl | hq
              · exact mo_iv 1 4 hI rfl (by omega) (by omega) (by decide)
              · rcases List.mem_cons.mp hq with rfl | hq
                · exact mo_iv 0 16 hI rfl (by omega) (by omega) (by decide)
                · rcases List.mem_cons.mp hq with rfl | hq
                  · exact mo_iv 4 4 hI rfl (by omega) (by omega) (by decide)
                  · cases hq
  · obtain ⟨⟨q1, q2, q3, q4, q5⟩, q6⟩ := q
    cases v with
    | some v => exact False.elim q1
    | none =>
      have p0 := at_num (p := 274439) (lo := 0) (hi := 1600) (q2 _ (List.mem_of_getElem? (i := 0) rfl)) (by decide)
      have p1 := at_num (p := 286721) (lo := 1) (hi := 4) (q2 _ (List.mem_of_getElem? (i := 1) rfl)) (by decide)
      have p2 := at_num (p := 294913) (lo := 1) (hi := 17) (q2 _ (List.mem_of_getElem? (i := 2) rfl)) (by decide)
      have p3 := at_num (p := 303105) (lo := 5) (hi := 5) (q2 _ (List.mem_of_getElem? (i := 3) rfl)) (by decide)
      have s_rb : gv h1 274470 = gv h 274470 := gv_fr (q4 _ rfl rfl)
      have s_D : gv h1 299009 = gv h 299009 := gv_fr (q4 _ rfl rfl)
      have s_A : gv h1 352258 = gv h 352258 := gv_fr (q4 _ rfl rfl)
      have s_B : gv h1 352259 = gv h 352259 := gv_fr (q4 _ rfl rfl)
      have s_T : gv h1 356353 = gv h 356353 := gv_fr (q4 _ rfl rfl)
      have s_W : gv h1 360449 = gv h 360449 := gv_fr (q4 _ rfl rfl)
      have hl := q6 (294913, 2147483649) List.mem_cons_self
      unfold ai_gr at hl
      simp only at hl
      rw [rb_small (x := gv h 294913) (by omega), rb_small (x := gv h1 294913) (by omega)] at hl
      have fin : (gv h1 274436 ≠ 0 ∨ se_s1 h + 1 ≤ se_s1 h1) ∧ gv h1 294913 ≤ se_s1 h1 := by
        unfold se_s1 at g4 ⊢
        omega
      exact ⟨rfl, ⟨q3, q5, by omega, by omega, by omega, fin.2, ai_fr_trans g5 (ai_fr_of q4 (by decide))⟩, fin.1⟩
theorem rs_m_readLine_r1_r1_member5 (he : ai_env X B) {h0 h : fx_H} (hS : se_I1 h0 h) (hg : gv h 274436 = 0) (hs16 : se_s1 h ≤ 16) (ht1 : 3 ≤ gv h 274440) (ht2 : gv h 274440 ≤ 3) {nm : Nat} (hn1 : ai_pl h 274442 = some (fl nm)) (hn2 : ai_lo 120282394289524 nm) (k303105 : gv h 303105 = 5) : rx_met l X Y B 125 13 [fr 67] h (se_P1 h0 h) := by
  obtain ⟨hI, hP, g1, g2, g3, g4, g5⟩ := hS
  obtain ⟨t1, t2, t3, t4, t5, t6, t7, t8⟩ := se_top1 hI
  refine rx_met_mono (rx_met_deep (by decide : 5 ≤ 13) (ic_m_readLine_r1_r1_member5 he [fr 67] h ⟨rfl, trivial⟩ (fun q hq => ?_) hI hP)) (fun v h1 q => ?_)
  · rcases List.mem_cons.mp hq with rfl | hq
    · exact mo_iv 0 0 hI rfl (by omega) (by omega) (by decide)
    · rcases List.mem_cons.mp hq with rfl | hq
      · exact mo_iv 0 1600 hI rfl (by omega) (by omega) (by decide)
      · rcases List.mem_cons.mp hq with rfl | hq
        · exact mo_iv 3 3 hI rfl (by omega) (by omega) (by decide)
        · rcases List.mem_cons.mp hq with rfl | hq
          · exact ⟨_, hn1, nm, rfl, hn2⟩
          · rcases List.mem_cons.mp hq with rfl | hq
            · exact mo_iv 1 1 hI rfl (by omega) (by omega) (by decide)
            · rcases List.mem_cons.mp hq with rfl | hq
              · exact mo_iv 1 4 hI rfl (by omega) (by omega) (by decide)
              · rcases List.mem_cons.mp hq with rfl | hq
                · exact mo_iv 0 16 hI rfl (by omega) (by omega) (by decide)
                · rcases List.mem_cons.mp hq with rfl | hq
                  · exact mo_iv 5 5 hI rfl (by omega) (by omega) (by decide)
                  · cases hq
  · obtain ⟨⟨q1, q2, q3, q4, q5⟩, q6⟩ := q
    cases v with
    | some v => exact False.elim q1
    | none =>
      have p0 := at_num (p := 274439) (lo := 0) (hi := 1600) (q2 _ (List.mem_of_getElem? (i := 0) rfl)) (by decide)
      have p1 := at_num (p := 286721) (lo := 1) (hi := 4) (q2 _ (List.mem_of_getElem? (i := 1) rfl)) (by decide)
      have p2 := at_num (p := 294913) (lo := 1) (hi := 17) (q2 _ (List.mem_of_getElem? (i := 2) rfl)) (by decide)
      have p3 := at_num (p := 303105) (lo := 6) (hi := 6) (q2 _ (List.mem_of_getElem? (i := 3) rfl)) (by decide)
      have s_rb : gv h1 274470 = gv h 274470 := gv_fr (q4 _ rfl rfl)
      have s_D : gv h1 299009 = gv h 299009 := gv_fr (q4 _ rfl rfl)
      have s_A : gv h1 352258 = gv h 352258 := gv_fr (q4 _ rfl rfl)
      have s_B : gv h1 352259 = gv h 352259 := gv_fr (q4 _ rfl rfl)
      have s_T : gv h1 356353 = gv h 356353 := gv_fr (q4 _ rfl rfl)
      have s_W : gv h1 360449 = gv h 360449 := gv_fr (q4 _ rfl rfl)
      have hl := q6 (294913, 2147483649) List.mem_cons_self
      unfold ai_gr at hl
      simp only at hl
      rw [rb_small (x := gv h 294913) (by omega), rb_small (x := gv h1 294913) (by omega)] at hl
      have fin : (gv h1 274436 ≠ 0 ∨ se_s1 h + 1 ≤ se_s1 h1) ∧ gv h1 294913 ≤ se_s1 h1 := by
        unfold se_s1 at g4 ⊢
        omega
      exact ⟨rfl, ⟨q3, q5, by omega, by omega, by omega, fin.2, ai_fr_trans g5 (ai_fr_of q4 (by decide))⟩, fin.1⟩
theorem rs_m_readLine_r1_r1_member6 (he : ai_env X B) {h0 h : fx_H} (hS : se_I1 h0 h) (hg : gv h 274436 = 0) (hs16 : se_s1 h ≤ 16) (ht1 : 3 ≤ gv h 274440) (ht2 : gv h 274440 ≤ 3) {nm : Nat} (hn1 : ai_pl h 274442 = some (fl nm)) (hn2 : ai_lo 120282394289524 nm) (k303105 : gv h 303105 = 6) : rx_met l X Y B 125 13 [fr 67] h (se_P1 h0 h) := by
  obtain ⟨hI, hP, g1, g2, g3, g4, g5⟩ := hS
  obtain ⟨t1, t2, t3, t4, t5, t6, t7, t8⟩ := se_top1 hI
  refine rx_met_mono (rx_met_deep (by decide : 5 ≤ 13) (ic_m_readLine_r1_r1_member6 he [fr 67] h ⟨rfl, trivial⟩ (fun q hq => ?_) hI hP)) (fun v h1 q => ?_)
  · rcases List.mem_cons.mp hq with rfl | hq
    · exact mo_iv 0 0 hI rfl (by omega) (by omega) (by decide)
    · rcases List.mem_cons.mp hq with rfl | hq
      · exact mo_iv 0 1600 hI rfl (by omega) (by omega) (by decide)
      · rcases List.mem_cons.mp hq with rfl | hq
        · exact mo_iv 3 3 hI rfl (by omega) (by omega) (by decide)
        · rcases List.mem_cons.mp hq with rfl | hq
          · exact ⟨_, hn1, nm, rfl, hn2⟩
          · rcases List.mem_cons.mp hq with rfl | hq
            · exact mo_iv 1 1 hI rfl (by omega) (by omega) (by decide)
            · rcases List.mem_cons.mp hq with rfl | hq
              · exact mo_iv 1 4 hI rfl (by omega) (by omega) (by decide)
              · rcases List.mem_cons.mp hq with rfl | hq
                · exact mo_iv 0 16 hI rfl (by omega) (by omega) (by decide)
                · rcases List.mem_cons.mp hq with rfl | hq
                  · exact mo_iv 6 6 hI rfl (by omega) (by omega) (by decide)
                  · cases hq
  · obtain ⟨⟨q1, q2, q3, q4, q5⟩, q6⟩ := q
    cases v with
    | some v => exact False.elim q1
    | none =>
      have p0 := at_num (p := 274439) (lo := 0) (hi := 1600) (q2 _ (List.mem_of_getElem? (i := 0) rfl)) (by decide)
      have p1 := at_num (p := 286721) (lo := 1) (hi := 4) (q2 _ (List.mem_of_getElem? (i := 1) rfl)) (by decide)
      have p2 := at_num (p := 294913) (lo := 1) (hi := 17) (q2 _ (List.mem_of_getElem? (i := 2) rfl)) (by decide)
      have p3 := at_num (p := 303105) (lo := 7) (hi := 7) (q2 _ (List.mem_of_getElem? (i := 3) rfl)) (by decide)
      have s_rb : gv h1 274470 = gv h 274470 := gv_fr (q4 _ rfl rfl)
      have s_D : gv h1 299009 = gv h 299009 := gv_fr (q4 _ rfl rfl)
      have s_A : gv h1 352258 = gv h 352258 := gv_fr (q4 _ rfl rfl)
      have s_B : gv h1 352259 = gv h 352259 := gv_fr (q4 _ rfl rfl)
      have s_T : gv h1 356353 = gv h 356353 := gv_fr (q4 _ rfl rfl)
      have s_W : gv h1 360449 = gv h 360449 := gv_fr (q4 _ rfl rfl)
      have hl := q6 (294913, 2147483649) List.mem_cons_self
      unfold ai_gr at hl
      simp only at hl
      rw [rb_small (x := gv h 294913) (by omega), rb_small (x := gv h1 294913) (by omega)] at hl
      have fin : (gv h1 274436 ≠ 0 ∨ se_s1 h + 1 ≤ se_s1 h1) ∧ gv h1 294913 ≤ se_s1 h1 := by
        unfold se_s1 at g4 ⊢
        omega
      exact ⟨rfl, ⟨q3, q5, by omega, by omega, by omega, fin.2, ai_fr_trans g5 (ai_fr_of q4 (by decide))⟩, fin.1⟩
theorem rs_m_readLine_r1_r1_member7 (he : ai_env X B) {h0 h : fx_H} (hS : se_I1 h0 h) (hg : gv h 274436 = 0) (hs16 : se_s1 h ≤ 16) (ht1 : 3 ≤ gv h 274440) (ht2 : gv h 274440 ≤ 3) {nm : Nat} (hn1 : ai_pl h 274442 = some (fl nm)) (hn2 : ai_lo 120282394289524 nm) (k303105 : gv h 303105 = 7) : rx_met l X Y B 125 13 [fr 67] h (se_P1 h0 h) := by
  obtain ⟨hI, hP, g1, g2, g3, g4, g5⟩ := hS
  obtain ⟨t1, t2, t3, t4, t5, t6, t7, t8⟩ := se_top1 hI
  refine rx_met_mono (rx_met_deep (by decide : 2 ≤ 13) (ic_m_readLine_r1_r1_member7 he [fr 67] h ⟨rfl, trivial⟩ (fun q hq => ?_) hI hP)) (fun v h1 q => ?_)
  · rcases List.mem_cons.mp hq with rfl | hq
    · exact mo_iv 0 0 hI rfl (by omega) (by omega) (by decide)
    · rcases List.mem_cons.mp hq with rfl | hq
      · exact mo_iv 0 1600 hI rfl (by omega) (by omega) (by decide)
      · rcases List.mem_cons.mp hq with rfl | hq
        · exact mo_iv 3 3 hI rfl (by omega) (by omega) (by decide)
        · rcases List.mem_cons.mp hq with rfl | hq
          · exact ⟨_, hn1, nm, rfl, hn2⟩
          · rcases List.mem_cons.mp hq with rfl | hq
            · exact mo_iv 1 1 hI rfl (by omega) (by omega) (by decide)
            · rcases List.mem_cons.mp hq with rfl | hq
              · exact mo_iv 1 4 hI rfl (by omega) (by omega) (by decide)
              · rcases List.mem_cons.mp hq with rfl | hq
                · exact mo_iv 0 16 hI rfl (by omega) (by omega) (by decide)
                · rcases List.mem_cons.mp hq with rfl | hq
                  · exact mo_iv 7 7 hI rfl (by omega) (by omega) (by decide)
                  · cases hq
  · obtain ⟨⟨q1, q2, q3, q4, q5⟩, q6⟩ := q
    cases v with
    | some v => exact False.elim q1
    | none =>
      have p0 := at_num (p := 274436) (lo := 2) (hi := 2) (q2 _ (List.mem_of_getElem? (i := 0) rfl)) (by decide)
      have p1 := at_num (p := 274439) (lo := 0) (hi := 1600) (q2 _ (List.mem_of_getElem? (i := 1) rfl)) (by decide)
      have p2 := at_num (p := 286721) (lo := 1) (hi := 4) (q2 _ (List.mem_of_getElem? (i := 2) rfl)) (by decide)
      have s_rb : gv h1 274470 = gv h 274470 := gv_fr (q4 _ rfl rfl)
      have s_ln : gv h1 294913 = gv h 294913 := gv_fr (q4 _ rfl rfl)
      have s_D : gv h1 299009 = gv h 299009 := gv_fr (q4 _ rfl rfl)
      have s_M : gv h1 303105 = gv h 303105 := gv_fr (q4 _ rfl rfl)
      have s_A : gv h1 352258 = gv h 352258 := gv_fr (q4 _ rfl rfl)
      have s_B : gv h1 352259 = gv h 352259 := gv_fr (q4 _ rfl rfl)
      have s_T : gv h1 356353 = gv h 356353 := gv_fr (q4 _ rfl rfl)
      have s_W : gv h1 360449 = gv h 360449 := gv_fr (q4 _ rfl rfl)
      have fin : (gv h1 274436 ≠ 0 ∨ se_s1 h + 1 ≤ se_s1 h1) ∧ gv h1 294913 ≤ se_s1 h1 := by
        unfold se_s1 at g4 ⊢
        omega
      exact ⟨rfl, ⟨q3, q5, by omega, by omega, by omega, fin.2, ai_fr_trans g5 (ai_fr_of q4 (by decide))⟩, fin.1⟩
theorem rs_m_readLine_r1_r1_tooth0 (he : ai_env X B) {h0 h : fx_H} (hS : se_I1 h0 h) (hg : gv h 274436 = 0) (hs16 : se_s1 h ≤ 16) (ht1 : 3 ≤ gv h 274440) (ht2 : gv h 274440 ≤ 3) {nm : Nat} (hn1 : ai_pl h 274442 = some (fl nm)) (hn2 : ai_lo 500085781610 nm) (k356353 : gv h 356353 = 0) : rx_met l X Y B 125 13 [fr 67] h (se_P1 h0 h) := by
  obtain ⟨hI, hP, g1, g2, g3, g4, g5⟩ := hS
  obtain ⟨t1, t2, t3, t4, t5, t6, t7, t8⟩ := se_top1 hI
  refine rx_met_mono (rx_met_deep (by decide : 4 ≤ 13) (ic_m_readLine_r1_r1_tooth0 he [fr 67] h ⟨rfl, trivial⟩ (fun q hq => ?_) hI hP)) (fun v h1 q => ?_)
  · rcases List.mem_cons.mp hq with rfl | hq
    · exact mo_iv 0 0 hI rfl (by omega) (by omega) (by decide)
    · rcases List.mem_cons.mp hq with rfl | hq
      · exact mo_iv 0 1600 hI rfl (by omega) (by omega) (by decide)
      · rcases List.mem_cons.mp hq with rfl | hq
        · exact mo_iv 3 3 hI rfl (by omega) (by omega) (by decide)
        · rcases List.mem_cons.mp hq with rfl | hq
          · exact ⟨_, hn1, nm, rfl, hn2⟩
          · rcases List.mem_cons.mp hq with rfl | hq
            · exact mo_iv 1 1 hI rfl (by omega) (by omega) (by decide)
            · rcases List.mem_cons.mp hq with rfl | hq
              · exact mo_iv 1 4 hI rfl (by omega) (by omega) (by decide)
              · rcases List.mem_cons.mp hq with rfl | hq
                · exact mo_iv 0 16 hI rfl (by omega) (by omega) (by decide)
                · rcases List.mem_cons.mp hq with rfl | hq
                  · exact mo_iv 0 0 hI rfl (by omega) (by omega) (by decide)
                  · cases hq
  · obtain ⟨⟨q1, q2, q3, q4, q5⟩, q6⟩ := q
    cases v with
    | some v => exact False.elim q1
    | none =>
      have p0 := at_num (p := 274439) (lo := 0) (hi := 1600) (q2 _ (List.mem_of_getElem? (i := 0) rfl)) (by decide)
      have p1 := at_num (p := 286721) (lo := 1) (hi := 4) (q2 _ (List.mem_of_getElem? (i := 1) rfl)) (by decide)
      have p2 := at_num (p := 294913) (lo := 1) (hi := 17) (q2 _ (List.mem_of_getElem? (i := 2) rfl)) (by decide)
      have p3 := at_num (p := 356353) (lo := 1) (hi := 1) (q2 _ (List.mem_of_getElem? (i := 3) rfl)) (by decide)
      have s_rb : gv h1 274470 = gv h 274470 := gv_fr (q4 _ rfl rfl)
      have s_D : gv h1 299009 = gv h 299009 := gv_fr (q4 _ rfl rfl)
      have s_M : gv h1 303105 = gv h 303105 := gv_fr (q4 _ rfl rfl)
      have s_A : gv h1 352258 = gv h 352258 := gv_fr (q4 _ rfl rfl)
      have s_B : gv h1 352259 = gv h 352259 := gv_fr (q4 _ rfl rfl)
      have s_W : gv h1 360449 = gv h 360449 := gv_fr (q4 _ rfl rfl)
      have hl := q6 (294913, 2147483649) List.mem_cons_self
      unfold ai_gr at hl
      simp only at hl
      rw [rb_small (x := gv h 294913) (by omega), rb_small (x := gv h1 294913) (by omega)] at hl
      have fin : (gv h1 274436 ≠ 0 ∨ se_s1 h + 1 ≤ se_s1 h1) ∧ gv h1 294913 ≤ se_s1 h1 := by
        unfold se_s1 at g4 ⊢
        omega
      exact ⟨rfl, ⟨q3, q5, by omega, by omega, by omega, fin.2, ai_fr_trans g5 (ai_fr_of q4 (by decide))⟩, fin.1⟩
theorem rs_m_readLine_r1_r1_tooth1 (he : ai_env X B) {h0 h : fx_H} (hS : se_I1 h0 h) (hg : gv h 274436 = 0) (hs16 : se_s1 h ≤ 16) (ht1 : 3 ≤ gv h 274440) (ht2 : gv h 274440 ≤ 3) {nm : Nat} (hn1 : ai_pl h 274442 = some (fl nm)) (hn2 : ai_lo 500085781610 nm) (k356353 : gv h 356353 = 1) : rx_met l X Y B 125 13 [fr 67] h (se_P1 h0 h) := by
  obtain ⟨hI, hP, g1, g2, g3, g4, g5⟩ := hS
  obtain ⟨t1, t2, t3, t4, t5, t6, t7, t8⟩ := se_top1 hI
  refine rx_met_mono (rx_met_deep (by decide : 2 ≤ 13) (ic_m_readLine_r1_r1_tooth1 he [fr 67] h ⟨rfl, trivial⟩ (fun q hq => ?_) hI hP)) (fun v h1 q => ?_)
  · rcases List.mem_cons.mp hq with rfl | hq
    · exact mo_iv 0 0 hI rfl (by omega) (by omega) (by decide)
    · rcases List.mem_cons.mp hq with rfl | hq
      · exact mo_iv 0 1600 hI rfl (by omega) (by omega) (by decide)
      · rcases List.mem_cons.mp hq with rfl | hq
        · exact mo_iv 3 3 hI rfl (by omega) (by omega) (by decide)
        · rcases List.mem_cons.mp hq with rfl | hq
          · exact ⟨_, hn1, nm, rfl, hn2⟩
          · rcases List.mem_cons.mp hq with rfl | hq
            · exact mo_iv 1 1 hI rfl (by omega) (by omega) (by decide)
            · rcases List.mem_cons.mp hq with rfl | hq
              · exact mo_iv 1 4 hI rfl (by omega) (by omega) (by decide)
              · rcases List.mem_cons.mp hq with rfl | hq
                · exact mo_iv 0 16 hI rfl (by omega) (by omega) (by decide)
                · rcases List.mem_cons.mp hq with rfl | hq
                  · exact mo_iv 1 1 hI rfl (by omega) (by omega) (by decide)
                  · cases hq
  · obtain ⟨⟨q1, q2, q3, q4, q5⟩, q6⟩ := q
    cases v with
    | some v => exact False.elim q1
    | none =>
      have p0 := at_num (p := 274436) (lo := 2) (hi := 2) (q2 _ (List.mem_of_getElem? (i := 0) rfl)) (by decide)
      have p1 := at_num (p := 274439) (lo := 0) (hi := 1600) (q2 _ (List.mem_of_getElem? (i := 1) rfl)) (by decide)
      have p2 := at_num (p := 286721) (lo := 1) (hi := 4) (q2 _ (List.mem_of_getElem? (i := 2) rfl)) (by decide)
      have s_rb : gv h1 274470 = gv h 274470 := gv_fr (q4 _ rfl rfl)
      have s_ln : gv h1 294913 = gv h 294913 := gv_fr (q4 _ rfl rfl)
      have s_D : gv h1 299009 = gv h 299009 := gv_fr (q4 _ rfl rfl)
      have s_M : gv h1 303105 = gv h 303105 := gv_fr (q4 _ rfl rfl)
      have s_A : gv h1 352258 = gv h 352258 := gv_fr (q4 _ rfl rfl)
      have s_B : gv h1 352259 = gv h 352259 := gv_fr (q4 _ rfl rfl)
      have s_T : gv h1 356353 = gv h 356353 := gv_fr (q4 _ rfl rfl)
      have s_W : gv h1 360449 = gv h 360449 := gv_fr (q4 _ rfl rfl)
      have fin : (gv h1 274436 ≠ 0 ∨ se_s1 h + 1 ≤ se_s1 h1) ∧ gv h1 294913 ≤ se_s1 h1 := by
        unfold se_s1 at g4 ⊢
        omega
      exact ⟨rfl, ⟨q3, q5, by omega, by omega, by omega, fin.2, ai_fr_trans g5 (ai_fr_of q4 (by decide))⟩, fin.1⟩
theorem rs_m_readLine_r1_r1_draw0 (he : ai_env X B) {h0 h : fx_H} (hS : se_I1 h0 h) (hg : gv h 274436 = 0) (hs16 : se_s1 h ≤ 16) (ht1 : 3 ≤ gv h 274440) (ht2 : gv h 274440 ≤ 3) {nm : Nat} (hn1 : ai_pl h 274442 = some (fl nm)) (hn2 : ai_lo 1685217657 nm) (k360449 : gv h 360449 = 0) : rx_met l X Y B 125 13 [fr 67] h (se_P1 h0 h) := by
  obtain ⟨hI, hP, g1, g2, g3, g4, g5⟩ := hS
  obtain ⟨t1, t2, t3, t4, t5, t6, t7, t8⟩ := se_top1 hI
  refine rx_met_mono (rx_met_deep (by decide : 3 ≤ 13) (ic_m_readLine_r1_r1_draw0 he [fr 67] h ⟨rfl, trivial⟩ (fun q hq => ?_) hI hP)) (fun v h1 q => ?_)
  · rcases List.mem_cons.mp hq with rfl | hq
    · exact mo_iv 0 0 hI rfl (by omega) (by omega) (by decide)
    · rcases List.mem_cons.mp hq with rfl | hq
      · exact mo_iv 0 1600 hI rfl (by omega) (by omega) (by decide)
      · rcases List.mem_cons.mp hq with rfl | hq
        · exact mo_iv 3 3 hI rfl (by omega) (by omega) (by decide)
        · rcases List.mem_cons.mp hq with rfl | hq
          · exact ⟨_, hn1, nm, rfl, hn2⟩
          · rcases List.mem_cons.mp hq with rfl | hq
            · exact mo_iv 1 1 hI rfl (by omega) (by omega) (by decide)
            · rcases List.mem_cons.mp hq with rfl | hq
              · exact mo_iv 1 4 hI rfl (by omega) (by omega) (by decide)
              · rcases List.mem_cons.mp hq with rfl | hq
                · exact mo_iv 0 16 hI rfl (by omega) (by omega) (by decide)
                · rcases List.mem_cons.mp hq with rfl | hq
                  · exact mo_iv 0 0 hI rfl (by omega) (by omega) (by decide)
                  · cases hq
  · obtain ⟨⟨q1, q2, q3, q4, q5⟩, q6⟩ := q
    cases v with
    | some v => exact False.elim q1
    | none =>
      have p0 := at_num (p := 274439) (lo := 0) (hi := 1600) (q2 _ (List.mem_of_getElem? (i := 0) rfl)) (by decide)
      have p1 := at_num (p := 286721) (lo := 1) (hi := 4) (q2 _ (List.mem_of_getElem? (i := 1) rfl)) (by decide)
      have p2 := at_num (p := 294913) (lo := 1) (hi := 17) (q2 _ (List.mem_of_getElem? (i := 2) rfl)) (by decide)
      have p3 := at_num (p := 360449) (lo := 1) (hi := 1) (q2 _ (List.mem_of_getElem? (i := 3) rfl)) (by decide)
      have s_rb : gv h1 274470 = gv h 274470 := gv_fr (q4 _ rfl rfl)
      have s_D : gv h1 299009 = gv h 299009 := gv_fr (q4 _ rfl rfl)
      have s_M : gv h1 303105 = gv h 303105 := gv_fr (q4 _ rfl rfl)
      have s_A : gv h1 352258 = gv h 352258 := gv_fr (q4 _ rfl rfl)
      have s_B : gv h1 352259 = gv h 352259 := gv_fr (q4 _ rfl rfl)
      have s_T : gv h1 356353 = gv h 356353 := gv_fr (q4 _ rfl rfl)
      have hl := q6 (294913, 2147483649) List.mem_cons_self
      unfold ai_gr at hl
      simp only at hl
      rw [rb_small (x := gv h 294913) (by omega), rb_small (x := gv h1 294913) (by omega)] at hl
      have fin : (gv h1 274436 ≠ 0 ∨ se_s1 h + 1 ≤ se_s1 h1) ∧ gv h1 294913 ≤ se_s1 h1 := by
        unfold se_s1 at g4 ⊢
        omega
      exact ⟨rfl, ⟨q3, q5, by omega, by omega, by omega, fin.2, ai_fr_trans g5 (ai_fr_of q4 (by decide))⟩, fin.1⟩
theorem rs_m_readLine_r1_r1_draw1 (he : ai_env X B) {h0 h : fx_H} (hS : se_I1 h0 h) (hg : gv h 274436 = 0) (hs16 : se_s1 h ≤ 16) (ht1 : 3 ≤ gv h 274440) (ht2 : gv h 274440 ≤ 3) {nm : Nat} (hn1 : ai_pl h 274442 = some (fl nm)) (hn2 : ai_lo 1685217657 nm) (k360449 : gv h 360449 = 1) : rx_met l X Y B 125 13 [fr 67] h (se_P1 h0 h) := by
  obtain ⟨hI, hP, g1, g2, g3, g4, g5⟩ := hS
  obtain ⟨t1, t2, t3, t4, t5, t6, t7, t8⟩ := se_top1 hI
  refine rx_met_mono (rx_met_deep (by decide : 2 ≤ 13) (ic_m_readLine_r1_r1_draw1 he [fr 67] h ⟨rfl, trivial⟩ (fun q hq => ?_) hI hP)) (fun v h1 q => ?_)
  · rcases List.mem_cons.mp hq with rfl | hq
    · exact mo_iv 0 0 hI rfl (by omega) (by omega) (by decide)
    · rcases List.mem_cons.mp hq with rfl | hq
      · exact mo_iv 0 1600 hI rfl (by omega) (by omega) (by decide)
      · rcases List.mem_cons.mp hq with rfl | hq
        · exact mo_iv 3 3 hI rfl (by omega) (by omega) (by decide)
        · rcases List.mem_cons.mp hq with rfl | hq
          · exact ⟨_, hn1, nm, rfl, hn2⟩
          · rcases List.mem_cons.mp hq with rfl | hq
            · exact mo_iv 1 1 hI rfl (by omega) (by omega) (by decide)
            · rcases List.mem_cons.mp hq with rfl | hq
              · exact mo_iv 1 4 hI rfl (by omega) (by omega) (by decide)
              · rcases List.mem_cons.mp hq with rfl | hq
                · exact mo_iv 0 16 hI rfl (by omega) (by omega) (by decide)
                · rcases List.mem_cons.mp hq with rfl | hq
                  · exact mo_iv 1 1 hI rfl (by omega) (by omega) (by decide)
                  · cases hq
  · obtain ⟨⟨q1, q2, q3, q4, q5⟩, q6⟩ := q
    cases v with
    | some v => exact False.elim q1
    | none =>
      have p0 := at_num (p := 274436) (lo := 2) (hi := 2) (q2 _ (List.mem_of_getElem? (i := 0) rfl)) (by decide)
      have p1 := at_num (p := 274439) (lo := 0) (hi := 1600) (q2 _ (List.mem_of_getElem? (i := 1) rfl)) (by decide)
      have p2 := at_num (p := 286721) (lo := 1) (hi := 4) (q2 _ (List.mem_of_getElem? (i := 2) rfl)) (by decide)
      have s_rb : gv h1 274470 = gv h 274470 := gv_fr (q4 _ rfl rfl)
      have s_ln : gv h1 294913 = gv h 294913 := gv_fr (q4 _ rfl rfl)
      have s_D : gv h1 299009 = gv h 299009 := gv_fr (q4 _ rfl rfl)
      have s_M : gv h1 303105 = gv h 303105 := gv_fr (q4 _ rfl rfl)
      have s_A : gv h1 352258 = gv h 352258 := gv_fr (q4 _ rfl rfl)
      have s_B : gv h1 352259 = gv h 352259 := gv_fr (q4 _ rfl rfl)
      have s_T : gv h1 356353 = gv h 356353 := gv_fr (q4 _ rfl rfl)
      have s_W : gv h1 360449 = gv h 360449 := gv_fr (q4 _ rfl rfl)
      have fin : (gv h1 274436 ≠ 0 ∨ se_s1 h + 1 ≤ se_s1 h1) ∧ gv h1 294913 ≤ se_s1 h1 := by
        unfold se_s1 at g4 ⊢
        omega
      exact ⟨rfl, ⟨q3, q5, by omega, by omega, by omega, fin.2, ai_fr_trans g5 (ai_fr_of q4 (by decide))⟩, fin.1⟩
theorem rs_m_readLine_r1_r1_look1 (he : ai_env X B) {h0 h : fx_H} (hS : se_I1 h0 h) (hg : gv h 274436 = 0) (hs16 : se_s1 h ≤ 16) (ht1 : 3 ≤ gv h 274440) (ht2 : gv h 274440 ≤ 3) {nm : Nat} (hn1 : ai_pl h 274442 = some (fl nm)) (hn2 : ai_lo 1819242349 nm) (k352258 : gv h 352258 = 1) : rx_met l X Y B 125 13 [fr 67] h (se_P1 h0 h) := by
  obtain ⟨hI, hP, g1, g2, g3, g4, g5⟩ := hS
  obtain ⟨t1, t2, t3, t4, t5, t6, t7, t8⟩ := se_top1 hI
  refine rx_met_mono (rx_met_deep (by decide : 2 ≤ 13) (ic_m_readLine_r1_r1_look1 he [fr 67] h ⟨rfl, trivial⟩ (fun q hq => ?_) hI hP)) (fun v h1 q => ?_)
  · rcases List.mem_cons.mp hq with rfl | hq
    · exact mo_iv 0 0 hI rfl (by omega) (by omega) (by decide)
    · rcases List.mem_cons.mp hq with rfl | hq
      · exact mo_iv 0 1600 hI rfl (by omega) (by omega) (by decide)
      · rcases List.mem_cons.mp hq with rfl | hq
        · exact mo_iv 3 3 hI rfl (by omega) (by omega) (by decide)
        · rcases List.mem_cons.mp hq with rfl | hq
          · exact ⟨_, hn1, nm, rfl, hn2⟩
          · rcases List.mem_cons.mp hq with rfl | hq
            · exact mo_iv 1 1 hI rfl (by omega) (by omega) (by decide)
            · rcases List.mem_cons.mp hq with rfl | hq
              · exact mo_iv 1 4 hI rfl (by omega) (by omega) (by decide)
              · rcases List.mem_cons.mp hq with rfl | hq
                · exact mo_iv 0 16 hI rfl (by omega) (by omega) (by decide)
                · rcases List.mem_cons.mp hq with rfl | hq
                  · exact mo_iv 1 1 hI rfl (by omega) (by omega) (by decide)
                  · cases hq
  · obtain ⟨⟨q1, q2, q3, q4, q5⟩, q6⟩ := q
    cases v with
    | some v => exact False.elim q1
    | none =>
      have p0 := at_num (p := 274436) (lo := 2) (hi := 2) (q2 _ (List.mem_of_getElem? (i := 0) rfl)) (by decide)
      have p1 := at_num (p := 274439) (lo := 0) (hi := 1600) (q2 _ (List.mem_of_getElem? (i := 1) rfl)) (by decide)
      have p2 := at_num (p := 286721) (lo := 1) (hi := 4) (q2 _ (List.mem_of_getElem? (i := 2) rfl)) (by decide)
      have s_rb : gv h1 274470 = gv h 274470 := gv_fr (q4 _ rfl rfl)
      have s_ln : gv h1 294913 = gv h 294913 := gv_fr (q4 _ rfl rfl)
      have s_D : gv h1 299009 = gv h 299009 := gv_fr (q4 _ rfl rfl)
      have s_M : gv h1 303105 = gv h 303105 := gv_fr (q4 _ rfl rfl)
      have s_A : gv h1 352258 = gv h 352258 := gv_fr (q4 _ rfl rfl)
      have s_B : gv h1 352259 = gv h 352259 := gv_fr (q4 _ rfl rfl)
      have s_T : gv h1 356353 = gv h 356353 := gv_fr (q4 _ rfl rfl)
      have s_W : gv h1 360449 = gv h 360449 := gv_fr (q4 _ rfl rfl)
      have fin : (gv h1 274436 ≠ 0 ∨ se_s1 h + 1 ≤ se_s1 h1) ∧ gv h1 294913 ≤ se_s1 h1 := by
        unfold se_s1 at g4 ⊢
        omega
      exact ⟨rfl, ⟨q3, q5, by omega, by omega, by omega, fin.2, ai_fr_trans g5 (ai_fr_of q4 (by decide))⟩, fin.1⟩
theorem rs_m_readLine_r1_r1_light1 (he : ai_env X B) {h0 h : fx_H} (hS : se_I1 h0 h) (hg : gv h 274436 = 0) (hs16 : se_s1 h ≤ 16) (ht1 : 3 ≤ gv h 274440) (ht2 : gv h 274440 ≤ 3) {nm : Nat} (hn1 : ai_pl h 274442 = some (fl nm)) (hn2 : ai_lo 465624852598 nm) (k352259 : gv h 352259 = 1) : rx_met l X Y B 125 13 [fr 67] h (se_P1 h0 h) := by
  obtain ⟨hI, hP, g1, g2, g3, g4, g5⟩ := hS
  obtain ⟨t1, t2, t3, t4, t5, t6, t7, t8⟩ := se_top1 hI
  refine rx_met_mono (rx_met_deep (by decide : 2 ≤ 13) (ic_m_readLine_r1_r1_light1 he [fr 67] h ⟨rfl, trivial⟩ (fun q hq => ?_) hI hP)) (fun v h1 q => ?_)
  · rcases List.mem_cons.mp hq with rfl | hq
    · exact mo_iv 0 0 hI rfl (by omega) (by omega) (by decide)
    · rcases List.mem_cons.mp hq with rfl | hq
      · exact mo_iv 0 1600 hI rfl (by omega) (by omega) (by decide)
      · rcases List.mem_cons.mp hq with rfl | hq
        · exact mo_iv 3 3 hI rfl (by omega) (by omega) (by decide)
        · rcases List.mem_cons.mp hq with rfl | hq
          · exact ⟨_, hn1, nm, rfl, hn2⟩
          · rcases List.mem_cons.mp hq with rfl | hq
            · exact mo_iv 1 1 hI rfl (by omega) (by omega) (by decide)
            · rcases List.mem_cons.mp hq with rfl | hq
              · exact mo_iv 1 4 hI rfl (by omega) (by omega) (by decide)
              · rcases List.mem_cons.mp hq with rfl | hq
                · exact mo_iv 0 16 hI rfl (by omega) (by omega) (by decide)
                · rcases List.mem_cons.mp hq with rfl | hq
                  · exact mo_iv 1 1 hI rfl (by omega) (by omega) (by decide)
                  · cases hq
  · obtain ⟨⟨q1, q2, q3, q4, q5⟩, q6⟩ := q
    cases v with
    | some v => exact False.elim q1
    | none =>
      have p0 := at_num (p := 274436) (lo := 2) (hi := 2) (q2 _ (List.mem_of_getElem? (i := 0) rfl)) (by decide)
      have p1 := at_num (p := 274439) (lo := 0) (hi := 1600) (q2 _ (List.mem_of_getElem? (i := 1) rfl)) (by decide)
      have p2 := at_num (p := 286721) (lo := 1) (hi := 4) (q2 _ (List.mem_of_getElem? (i := 2) rfl)) (by decide)
      have s_rb : gv h1 274470 = gv h 274470 := gv_fr (q4 _ rfl rfl)
      have s_ln : gv h1 294913 = gv h 294913 := gv_fr (q4 _ rfl rfl)
      have s_D : gv h1 299009 = gv h 299009 := gv_fr (q4 _ rfl rfl)
      have s_M : gv h1 303105 = gv h 303105 := gv_fr (q4 _ rfl rfl)
      have s_A : gv h1 352258 = gv h 352258 := gv_fr (q4 _ rfl rfl)
      have s_B : gv h1 352259 = gv h 352259 := gv_fr (q4 _ rfl rfl)
      have s_T : gv h1 356353 = gv h 356353 := gv_fr (q4 _ rfl rfl)
      have s_W : gv h1 360449 = gv h 360449 := gv_fr (q4 _ rfl rfl)
      have fin : (gv h1 274436 ≠ 0 ∨ se_s1 h + 1 ≤ se_s1 h1) ∧ gv h1 294913 ≤ se_s1 h1 := by
        unfold se_s1 at g4 ⊢
        omega
      exact ⟨rfl, ⟨q3, q5, by omega, by omega, by omega, fin.2, ai_fr_trans g5 (ai_fr_of q4 (by decide))⟩, fin.1⟩
theorem rs_m_readLine_r0_r0_look00 (he : ai_env X B) {h0 h : fx_H} (hS : se_I0 h0 h) (hg : gv h 274436 = 0) (hs16 : se_s0 h ≤ 16) (ht1 : 3 ≤ gv h 274440) (ht2 : gv h 274440 ≤ 3) {nm : Nat} (hn1 : ai_pl h 274442 = some (fl nm)) (hn2 : ai_lo 1819242349 nm) (k352256 : gv h 352256 = 0) (k352257 : gv h 352257 = 0) : rx_met l X Y B 125 13 [fr 67] h (se_P0 h0 h) := by
  obtain ⟨hI, hP, g1, g2, g3, g4, g5⟩ := hS
  obtain ⟨t1, t2, t3, t4, t5, t6, t7, t8⟩ := se_top0 hI
  refine rx_met_mono (rx_met_deep (by decide : 13 ≤ 13) (ic_m_readLine_r0_r0_look00 he [fr 67] h ⟨rfl, trivial⟩ (fun q hq => ?_) hI hP)) (fun v h1 q => ?_)
  · rcases List.mem_cons.mp hq with rfl | hq
    · exact mo_iv 0 0 hI rfl (by omega) (by omega) (by decide)
    · rcases List.mem_cons.mp hq with rfl | hq
      · exact mo_iv 0 1600 hI rfl (by omega) (by omega) (by decide)
      · rcases List.mem_cons.mp hq with rfl | hq
        · exact mo_iv 3 3 hI rfl (by omega) (by omega) (by decide)
        · rcases List.mem_cons.mp hq with rfl | hq
          · exact ⟨_, hn1, nm, rfl, hn2⟩
          · rcases List.mem_cons.mp hq with rfl | hq
            · exact mo_iv 0 0 hI rfl (by omega) (by omega) (by decide)
            · rcases List.mem_cons.mp hq with rfl | hq
              · exact mo_iv 1 4 hI rfl (by omega) (by omega) (by decide)
              · rcases List.mem_cons.mp hq with rfl | hq
                · exact mo_iv 0 16 hI rfl (by omega) (by omega) (by decide)
                · rcases List.mem_cons.mp hq with rfl | hq
                  · exact mo_iv 0 0 hI rfl (by omega) (by omega) (by decide)
                  · rcases List.mem_cons.mp hq with rfl | hq
                    · exact mo_iv 0 0 hI rfl (by omega) (by omega) (by decide)
                    · cases hq
  · obtain ⟨⟨q1, q2, q3, q4, q5⟩, q6⟩ := q
    cases v with
    | some v => exact False.elim q1
    | none =>
      have p0 := at_num (p := 274439) (lo := 0) (hi := 1600) (q2 _ (List.mem_of_getElem? (i := 0) rfl)) (by decide)
      have p1 := at_num (p := 286721) (lo := 1) (hi := 4) (q2 _ (List.mem_of_getElem? (i := 1) rfl)) (by decide)
      have p2 := at_num (p := 294912) (lo := 1) (hi := 17) (q2 _ (List.mem_of_getElem? (i := 2) rfl)) (by decide)
      have p3 := at_num (p := 352256) (lo := 1) (hi := 1) (q2 _ (List.mem_of_getElem? (i := 3) rfl)) (by decide)
      have p4 := at_num (p := 352257) (lo := 0) (hi := 0) (q2 _ (List.mem_of_getElem? (i := 4) rfl)) (by decide)
      have s_rb : gv h1 274470 = gv h 274470 := gv_fr (q4 _ rfl rfl)
      have s_D : gv h1 299008 = gv h 299008 := gv_fr (q4 _ rfl rfl)
      have s_M : gv h1 303104 = gv h 303104 := gv_fr (q4 _ rfl rfl)
      have s_T : gv h1 356352 = gv h 356352 := gv_fr (q4 _ rfl rfl)
      have s_W : gv h1 360448 = gv h 360448 := gv_fr (q4 _ rfl rfl)
      have hl := q6 (294912, 2147483649) List.mem_cons_self
      unfold ai_gr at hl
      simp only at hl
      rw [rb_small (x := gv h 294912) (by omega), rb_small (x := gv h1 294912) (by omega)] at hl
      have fin : (gv h1 274436 ≠ 0 ∨ se_s0 h + 1 ≤ se_s0 h1) ∧ gv h1 294912 ≤ se_s0 h1 := by
        unfold se_s0 at g4 ⊢
        omega
      exact ⟨rfl, ⟨q3, q5, by omega, by omega, by omega, fin.2, ai_fr_trans g5 (ai_fr_of q4 (by decide))⟩, fin.1⟩
theorem rs_m_readLine_r0_r0_look01 (he : ai_env X B) {h0 h : fx_H} (hS : se_I0 h0 h) (hg : gv h 274436 = 0) (hs16 : se_s0 h ≤ 16) (ht1 : 3 ≤ gv h 274440) (ht2 : gv h 274440 ≤ 3) {nm : Nat} (hn1 : ai_pl h 274442 = some (fl nm)) (hn2 : ai_lo 1819242349 nm) (k352256 : gv h 352256 = 0) (k352257 : gv h 352257 = 1) : rx_met l X Y B 125 13 [fr 67] h (se_P0 h0 h) := by
  obtain ⟨hI, hP, g1, g2, g3, g4, g5⟩ := hS
  obtain ⟨t1, t2, t3, t4, t5, t6, t7, t8⟩ := se_top0 hI
  refine rx_met_mono (rx_met_deep (by decide : 13 ≤ 13) (ic_m_readLine_r0_r0_look01 he [fr 67] h ⟨rfl, trivial⟩ (fun q hq => ?_) hI hP)) (fun v h1 q => ?_)
  · rcases List.mem_cons.mp hq with rfl | hq
    · exact mo_iv 0 0 hI rfl (by omega) (by omega) (by decide)
    · rcases List.mem_cons.mp hq with rfl | hq
      · exact mo_iv 0 1600 hI rfl (by omega) (by omega) (by decide)
      · rcases List.mem_cons.mp hq with rfl | hq
        · exact mo_iv 3 3 hI rfl (by omega) (by omega) (by decide)
        · rcases List.mem_cons.mp hq with rfl | hq
          · exact ⟨_, hn1, nm, rfl, hn2⟩
          · rcases List.mem_cons.mp hq with rfl | hq
            · exact mo_iv 0 0 hI rfl (by omega) (by omega) (by decide)
            · rcases List.mem_cons.mp hq with rfl | hq
              · exact mo_iv 1 4 hI rfl (by omega) (by omega) (by decide)
              · rcases List.mem_cons.mp hq with rfl | hq
                · exact mo_iv 0 16 hI rfl (by omega) (by omega) (by decide)
                · rcases List.mem_cons.mp hq with rfl | hq
                  · exact mo_iv 0 0 hI rfl (by omega) (by omega) (by decide)
                  · rcases List.mem_cons.mp hq with rfl | hq
                    · exact mo_iv 1 1 hI rfl (by omega) (by omega) (by decide)
                    · cases hq
  · obtain ⟨⟨q1, q2, q3, q4, q5⟩, q6⟩ := q
    cases v with
    | some v => exact False.elim q1
    | none =>
      have p0 := at_num (p := 274439) (lo := 0) (hi := 1600) (q2 _ (List.mem_of_getElem? (i := 0) rfl)) (by decide)
      have p1 := at_num (p := 286721) (lo := 1) (hi := 4) (q2 _ (List.mem_of_getElem? (i := 1) rfl)) (by decide)
      have p2 := at_num (p := 294912) (lo := 1) (hi := 17) (q2 _ (List.mem_of_getElem? (i := 2) rfl)) (by decide)
      have p3 := at_num (p := 352256) (lo := 1) (hi := 1) (q2 _ (List.mem_of_getElem? (i := 3) rfl)) (by decide)
      have p4 := at_num (p := 352257) (lo := 1) (hi := 1) (q2 _ (List.mem_of_getElem? (i := 4) rfl)) (by decide)
      have s_rb : gv h1 274470 = gv h 274470 := gv_fr (q4 _ rfl rfl)
      have s_D : gv h1 299008 = gv h 299008 := gv_fr (q4 _ rfl rfl)
      have s_M : gv h1 303104 = gv h 303104 := gv_fr (q4 _ rfl rfl)
      have s_T : gv h1 356352 = gv h 356352 := gv_fr (q4 _ rfl rfl)
      have s_W : gv h1 360448 = gv h 360448 := gv_fr (q4 _ rfl rfl)
      have hl := q6 (294912, 2147483649) List.mem_cons_self
      unfold ai_gr at hl
      simp only at hl
      rw [rb_small (x := gv h 294912) (by omega), rb_small (x := gv h1 294912) (by omega)] at hl
      have fin : (gv h1 274436 ≠ 0 ∨ se_s0 h + 1 ≤ se_s0 h1) ∧ gv h1 294912 ≤ se_s0 h1 := by
        unfold se_s0 at g4 ⊢
        omega
      exact ⟨rfl, ⟨q3, q5, by omega, by omega, by omega, fin.2, ai_fr_trans g5 (ai_fr_of q4 (by decide))⟩, fin.1⟩
theorem rs_m_readLine_r0_r0_light00 (he : ai_env X B) {h0 h : fx_H} (hS : se_I0 h0 h) (hg : gv h 274436 = 0) (hs16 : se_s0 h ≤ 16) (ht1 : 3 ≤ gv h 274440) (ht2 : gv h 274440 ≤ 3) {nm : Nat} (hn1 : ai_pl h 274442 = some (fl nm)) (hn2 : ai_lo 465624852598 nm) (k352256 : gv h 352256 = 0) (k352257 : gv h 352257 = 0) : rx_met l X Y B 125 13 [fr 67] h (se_P0 h0 h) := by
  obtain ⟨hI, hP, g1, g2, g3, g4, g5⟩ := hS
  obtain ⟨t1, t2, t3, t4, t5, t6, t7, t8⟩ := se_top0 hI
  refine rx_met_mono (rx_met_deep (by decide : 13 ≤ 13) (ic_m_readLine_r0_r0_light00 he [fr 67] h ⟨rfl, trivial⟩ (fun q hq => ?_) hI hP)) (fun v h1 q => ?_)
  · rcases List.mem_cons.mp hq with rfl | hq
    · exact mo_iv 0 0 hI rfl (by omega) (by omega) (by decide)
    · rcases List.mem_cons.mp hq with rfl | hq
      · exact mo_iv 0 1600 hI rfl (by omega) (by omega) (by decide)
      · rcases List.mem_cons.mp hq with rfl | hq
        · exact mo_iv 3 3 hI rfl (by omega) (by omega) (by decide)
        · rcases List.mem_cons.mp hq with rfl | hq
          · exact ⟨_, hn1, nm, rfl, hn2⟩
          · rcases List.mem_cons.mp hq with rfl | hq
            · exact mo_iv 0 0 hI rfl (by omega) (by omega) (by decide)
            · rcases List.mem_cons.mp hq with rfl | hq
              · exact mo_iv 1 4 hI rfl (by omega) (by omega) (by decide)
              · rcases List.mem_cons.mp hq with rfl | hq
                · exact mo_iv 0 16 hI rfl (by omega) (by omega) (by decide)
                · rcases List.mem_cons.mp hq with rfl | hq
                  · exact mo_iv 0 0 hI rfl (by omega) (by omega) (by decide)
                  · rcases List.mem_cons.mp hq with rfl | hq
                    · exact mo_iv 0 0 hI rfl (by omega) (by omega) (by decide)
                    · cases hq
  · obtain ⟨⟨q1, q2, q3, q4, q5⟩, q6⟩ := q
    cases v with
    | some v => exact False.elim q1
    | none =>
      have p0 := at_num (p := 274439) (lo := 0) (hi := 1600) (q2 _ (List.mem_of_getElem? (i := 0) rfl)) (by decide)
      have p1 := at_num (p := 286721) (lo := 1) (hi := 4) (q2 _ (List.mem_of_getElem? (i := 1) rfl)) (by decide)
      have p2 := at_num (p := 294912) (lo := 1) (hi := 17) (q2 _ (List.mem_of_getElem? (i := 2) rfl)) (by decide)
      have p3 := at_num (p := 352256) (lo := 0) (hi := 0) (q2 _ (List.mem_of_getElem? (i := 3) rfl)) (by decide)
      have p4 := at_num (p := 352257) (lo := 1) (hi := 1) (q2 _ (List.mem_of_getElem? (i := 4) rfl)) (by decide)
      have s_rb : gv h1 274470 = gv h 274470 := gv_fr (q4 _ rfl rfl)
      have s_D : gv h1 299008 = gv h 299008 := gv_fr (q4 _ rfl rfl)
      have s_M : gv h1 303104 = gv h 303104 := gv_fr (q4 _ rfl rfl)
      have s_T : gv h1 356352 = gv h 356352 := gv_fr (q4 _ rfl rfl)
      have s_W : gv h1 360448 = gv h 360448 := gv_fr (q4 _ rfl rfl)
      have hl := q6 (294912, 2147483649) List.mem_cons_self
      unfold ai_gr at hl
      simp only at hl
      rw [rb_small (x := gv h 294912) (by omega), rb_small (x := gv h1 294912) (by omega)] at hl
      have fin : (gv h1 274436 ≠ 0 ∨ se_s0 h + 1 ≤ se_s0 h1) ∧ gv h1 294912 ≤ se_s0 h1 := by
        unfold se_s0 at g4 ⊢
        omega
      exact ⟨rfl, ⟨q3, q5, by omega, by omega, by omega, fin.2, ai_fr_trans g5 (ai_fr_of q4 (by decide))⟩, fin.1⟩
theorem rs_m_readLine_r0_r0_light01 (he : ai_env X B) {h0 h : fx_H} (hS : se_I0 h0 h) (hg : gv h 274436 = 0) (hs16 : se_s0 h ≤ 16) (ht1 : 3 ≤ gv h 274440) (ht2 : gv h 274440 ≤ 3) {nm : Nat} (hn1 : ai_pl h 274442 = some (fl nm)) (hn2 : ai_lo 465624852598 nm) (k352256 : gv h 352256 = 1) (k352257 : gv h 352257 = 0) : rx_met l X Y B 125 13 [fr 67] h (se_P0 h0 h) := by
  obtain ⟨hI, hP, g1, g2, g3, g4, g5⟩ := hS
  obtain ⟨t1, t2, t3, t4, t5, t6, t7, t8⟩ := se_top0 hI
  refine rx_met_mono (rx_met_deep (by decide : 13 ≤ 13) (ic_m_readLine_r0_r0_light01 he [fr 67] h ⟨rfl, trivial⟩ (fun q hq => ?_) hI hP)) (fun v h1 q => ?_)
  · rcases List.mem_cons.mp hq with rfl | hq
    · exact mo_iv 0 0 hI rfl (by omega) (by omega) (by decide)
    · rcases List.mem_cons.mp hq with rfl | hq
      · exact mo_iv 0 1600 hI rfl (by omega) (by omega) (by decide)
      · rcases List.mem_cons.mp hq with rfl | hq
        · exact mo_iv 3 3 hI rfl (by omega) (by omega) (by decide)
        · rcases List.mem_cons.mp hq with rfl | hq
          · exact ⟨_, hn1, nm, rfl, hn2⟩
          · rcases List.mem_cons.mp hq with rfl | hq
            · exact mo_iv 0 0 hI rfl (by omega) (by omega) (by decide)
            · rcases List.mem_cons.mp hq with rfl | hq
              · exact mo_iv 1 4 hI rfl (by omega) (by omega) (by decide)
              · rcases List.mem_cons.mp hq with rfl | hq
                · exact mo_iv 0 16 hI rfl (by omega) (by omega) (by decide)
                · rcases List.mem_cons.mp hq with rfl | hq
                  · exact mo_iv 1 1 hI rfl (by omega) (by omega) (by decide)
                  · rcases List.mem_cons.mp hq with rfl | hq
                    · exact mo_iv 0 0 hI rfl (by omega) (by omega) (by decide)
                    · cases hq
  · obtain ⟨⟨q1, q2, q3, q4, q5⟩, q6⟩ := q
    cases v with
    | some v => exact False.elim q1
    | none =>
      have p0 := at_num (p := 274439) (lo := 0) (hi := 1600) (q2 _ (List.mem_of_getElem? (i := 0) rfl)) (by decide)
      have p1 := at_num (p := 286721) (lo := 1) (hi := 4) (q2 _ (List.mem_of_getElem? (i := 1) rfl)) (by decide)
      have p2 := at_num (p := 294912) (lo := 1) (hi := 17) (q2 _ (List.mem_of_getElem? (i := 2) rfl)) (by decide)
      have p3 := at_num (p := 352256) (lo := 1) (hi := 1) (q2 _ (List.mem_of_getElem? (i := 3) rfl)) (by decide)
      have p4 := at_num (p := 352257) (lo := 1) (hi := 1) (q2 _ (List.mem_of_getElem? (i := 4) rfl)) (by decide)
      have s_rb : gv h1 274470 = gv h 274470 := gv_fr (q4 _ rfl rfl)
      have s_D : gv h1 299008 = gv h 299008 := gv_fr (q4 _ rfl rfl)
      have s_M : gv h1 303104 = gv h 303104 := gv_fr (q4 _ rfl rfl)
      have s_T : gv h1 356352 = gv h 356352 := gv_fr (q4 _ rfl rfl)
      have s_W : gv h1 360448 = gv h 360448 := gv_fr (q4 _ rfl rfl)
      have hl := q6 (294912, 2147483649) List.mem_cons_self
      unfold ai_gr at hl
      simp only at hl
      rw [rb_small (x := gv h 294912) (by omega), rb_small (x := gv h1 294912) (by omega)] at hl
      have fin : (gv h1 274436 ≠ 0 ∨ se_s0 h + 1 ≤ se_s0 h1) ∧ gv h1 294912 ≤ se_s0 h1 := by
        unfold se_s0 at g4 ⊢
        omega
      exact ⟨rfl, ⟨q3, q5, by omega, by omega, by omega, fin.2, ai_fr_trans g5 (ai_fr_of q4 (by decide))⟩, fin.1⟩
theorem rs_m_readLine_r1_r1_look00 (he : ai_env X B) {h0 h : fx_H} (hS : se_I1 h0 h) (hg : gv h 274436 = 0) (hs16 : se_s1 h ≤ 16) (ht1 : 3 ≤ gv h 274440) (ht2 : gv h 274440 ≤ 3) {nm : Nat} (hn1 : ai_pl h 274442 = some (fl nm)) (hn2 : ai_lo 1819242349 nm) (k352258 : gv h 352258 = 0) (k352259 : gv h 352259 = 0) : rx_met l X Y B 125 13 [fr 67] h (se_P1 h0 h) := by
  obtain ⟨hI, hP, g1, g2, g3, g4, g5⟩ := hS
  obtain ⟨t1, t2, t3, t4, t5, t6, t7, t8⟩ := se_top1 hI
  refine rx_met_mono (rx_met_deep (by decide : 13 ≤ 13) (ic_m_readLine_r1_r1_look00 he [fr 67] h ⟨rfl, trivial⟩ (fun q hq => ?_) hI hP)) (fun v h1 q => ?_)
  · rcases List.mem_cons.mp hq with rfl | hq
    · exact mo_iv 0 0 hI rfl (by omega) (by omega) (by decide)
    · rcases List.mem_cons.mp hq with rfl | hq
      · exact mo_iv 0 1600 hI rfl (by omega) (by omega) (by decide)
      · rcases List.mem_cons.mp hq with rfl | hq
        · exact mo_iv 3 3 hI rfl (by omega) (by omega) (by decide)
        · rcases List.mem_cons.mp hq with rfl | hq
          · exact ⟨_, hn1, nm, rfl, hn2⟩
          · rcases List.mem_cons.mp hq with rfl | hq
            · exact mo_iv 1 1 hI rfl (by omega) (by omega) (by decide)
            · rcases List.mem_cons.mp hq with rfl | hq
              · exact mo_iv 1 4 hI rfl (by omega) (by omega) (by decide)
              · rcases List.mem_cons.mp hq with rfl | hq
                · exact mo_iv 0 16 hI rfl (by omega) (by omega) (by decide)
                · rcases List.mem_cons.mp hq with rfl | hq
                  · exact mo_iv 0 0 hI rfl (by omega) (by omega) (by decide)
                  · rcases List.mem_cons.mp hq with rfl | hq
                    · exact mo_iv 0 0 hI rfl (by omega) (by omega) (by decide)
                    · cases hq
  · obtain ⟨⟨q1, q2, q3, q4, q5⟩, q6⟩ := q
    cases v with
    | some v => exact False.elim q1
    | none =>
      have p0 := at_num (p := 274439) (lo := 0) (hi := 1600) (q2 _ (List.mem_of_getElem? (i := 0) rfl)) (by decide)
      have p1 := at_num (p := 286721) (lo := 1) (hi := 4) (q2 _ (List.mem_of_getElem? (i := 1) rfl)) (by decide)
      have p2 := at_num (p := 294913) (lo := 1) (hi := 17) (q2 _ (List.mem_of_getElem? (i := 2) rfl)) (by decide)
      have p3 := at_num (p := 352258) (lo := 1) (hi := 1) (q2 _ (List.mem_of_getElem? (i := 3) rfl)) (by decide)
      have p4 := at_num (p := 352259) (lo := 0) (hi := 0) (q2 _ (List.mem_of_getElem? (i := 4) rfl)) (by decide)
      have s_rb : gv h1 274470 = gv h 274470 := gv_fr (q4 _ rfl rfl)
      have s_D : gv h1 299009 = gv h 299009 := gv_fr (q4 _ rfl rfl)
      have s_M : gv h1 303105 = gv h 303105 := gv_fr (q4 _ rfl rfl)
      have s_T : gv h1 356353 = gv h 356353 := gv_fr (q4 _ rfl rfl)
      have s_W : gv h1 360449 = gv h 360449 := gv_fr (q4 _ rfl rfl)
      have hl := q6 (294913, 2147483649) List.mem_cons_self
      unfold ai_gr at hl
      simp only at hl
      rw [rb_small (x := gv h 294913) (by omega), rb_small (x := gv h1 294913) (by omega)] at hl
      have fin : (gv h1 274436 ≠ 0 ∨ se_s1 h + 1 ≤ se_s1 h1) ∧ gv h1 294913 ≤ se_s1 h1 := by
        unfold se_s1 at g4 ⊢
        omega
      exact ⟨rfl, ⟨q3, q5, by omega, by omega, by omega, fin.2, ai_fr_trans g5 (ai_fr_of q4 (by decide))⟩, fin.1⟩
theorem rs_m_readLine_r1_r1_look01 (he : ai_env X B) {h0 h : fx_H} (hS : se_I1 h0 h) (hg : gv h 274436 = 0) (hs16 : se_s1 h ≤ 16) (ht1 : 3 ≤ gv h 274440) (ht2 : gv h 274440 ≤ 3) {nm : Nat} (hn1 : ai_pl h 274442 = some (fl nm)) (hn2 : ai_lo 1819242349 nm) (k352258 : gv h 352258 = 0) (k352259 : gv h 352259 = 1) : rx_met l X Y B 125 13 [fr 67] h (se_P1 h0 h) := by
  obtain ⟨hI, hP, g1, g2, g3, g4, g5⟩ := hS
  obtain ⟨t1, t2, t3, t4, t5, t6, t7, t8⟩ := se_top1 hI
  refine rx_met_mono (rx_met_deep (by decide : 13 ≤ 13) (ic_m_readLine_r1_r1_look01 he [fr 67] h ⟨rfl, trivial⟩ (fun q hq => ?_) hI hP)) (fun v h1 q => ?_)
  · rcases List.mem_cons.mp hq with rfl | hq
    · exact mo_iv 0 0 hI rfl (by omega) (by omega) (by decide)
    · rcases List.mem_cons.mp hq with rfl | hq
      · exact mo_iv 0 1600 hI rfl (by omega) (by omega) (by decide)
      · rcases List.mem_cons.mp hq with rfl | hq
        · exact mo_iv 3 3 hI rfl (by omega) (by omega) (by decide)
        · rcases List.mem_cons.mp hq with rfl | hq
          · exact ⟨_, hn1, nm, rfl, hn2⟩
          · rcases List.mem_cons.mp hq with rfl | hq
            · exact mo_iv 1 1 hI rfl (by omega) (by omega) (by decide)
            · rcases List.mem_cons.mp hq with rfl | hq
              · exact mo_iv 1 4 hI rfl (by omega) (by omega) (by decide)
              · rcases List.mem_cons.mp hq with rfl | hq
                · exact mo_iv 0 16 hI rfl (by omega) (by omega) (by decide)
                · rcases List.mem_cons.mp hq with rfl | hq
                  · exact mo_iv 0 0 hI rfl (by omega) (by omega) (by decide)
                  · rcases List.mem_cons.mp hq with rfl | hq
                    · exact mo_iv 1 1 hI rfl (by omega) (by omega) (by decide)
                    · cases hq
  · obtain ⟨⟨q1, q2, q3, q4, q5⟩, q6⟩ := q
    cases v with
    | some v => exact False.elim q1
    | none =>
      have p0 := at_num (p := 274439) (lo := 0) (hi := 1600) (q2 _ (List.mem_of_getElem? (i := 0) rfl)) (by decide)
      have p1 := at_num (p := 286721) (lo := 1) (hi := 4) (q2 _ (List.mem_of_getElem? (i := 1) rfl)) (by decide)
      have p2 := at_num (p := 294913) (lo := 1) (hi := 17) (q2 _ (List.mem_of_getElem? (i := 2) rfl)) (by decide)
      have p3 := at_num (p := 352258) (lo := 1) (hi := 1) (q2 _ (List.mem_of_getElem? (i := 3) rfl)) (by decide)
      have p4 := at_num (p := 352259) (lo := 1) (hi := 1) (q2 _ (List.mem_of_getElem? (i := 4) rfl)) (by decide)
      have s_rb : gv h1 274470 = gv h 274470 := gv_fr (q4 _ rfl rfl)
      have s_D : gv h1 299009 = gv h 299009 := gv_fr (q4 _ rfl rfl)
      have s_M : gv h1 303105 = gv h 303105 := gv_fr (q4 _ rfl rfl)
      have s_T : gv h1 356353 = gv h 356353 := gv_fr (q4 _ rfl rfl)
      have s_W : gv h1 360449 = gv h 360449 := gv_fr (q4 _ rfl rfl)
      have hl := q6 (294913, 2147483649) List.mem_cons_self
      unfold ai_gr at hl
      simp only at hl
      rw [rb_small (x := gv h 294913) (by omega), rb_small (x := gv h1 294913) (by omega)] at hl
      have fin : (gv h1 274436 ≠ 0 ∨ se_s1 h + 1 ≤ se_s1 h1) ∧ gv h1 294913 ≤ se_s1 h1 := by
        unfold se_s1 at g4 ⊢
        omega
      exact ⟨rfl, ⟨q3, q5, by omega, by omega, by omega, fin.2, ai_fr_trans g5 (ai_fr_of q4 (by decide))⟩, fin.1⟩
theorem rs_m_readLine_r1_r1_light00 (he : ai_env X B) {h0 h : fx_H} (hS : se_I1 h0 h) (hg : gv h 274436 = 0) (hs16 : se_s1 h ≤ 16) (ht1 : 3 ≤ gv h 274440) (ht2 : gv h 274440 ≤ 3) {nm : Nat} (hn1 : ai_pl h 274442 = some (fl nm)) (hn2 : ai_lo 465624852598 nm) (k352258 : gv h 352258 = 0) (k352259 : gv h 352259 = 0) : rx_met l X Y B 125 13 [fr 67] h (se_P1 h0 h) := by
  obtain ⟨hI, hP, g1, g2, g3, g4, g5⟩ := hS
  obtain ⟨t1, t2, t3, t4, t5, t6, t7, t8⟩ := se_top1 hI
  refine rx_met_mono (rx_met_deep (by decide : 13 ≤ 13) (ic_m_readLine_r1_r1_light00 he [fr 67] h ⟨rfl, trivial⟩ (fun q hq => ?_) hI hP)) (fun v h1 q => ?_)
  · rcases List.mem_cons.mp hq with rfl | hq
    · exact mo_iv 0 0 hI rfl (by omega) (by omega) (by decide)
    · rcases List.mem_cons.mp hq with rfl | hq
      · exact mo_iv 0 1600 hI rfl (by omega) (by omega) (by decide)
      · rcases List.mem_cons.mp hq with rfl | hq
        · exact mo_iv 3 3 hI rfl (by omega) (by omega) (by decide)
        · rcases List.mem_cons.mp hq with rfl | hq
          · exact ⟨_, hn1, nm, rfl, hn2⟩
          · rcases List.mem_cons.mp hq with rfl | hq
            · exact mo_iv 1 1 hI rfl (by omega) (by omega) (by decide)
            · rcases List.mem_cons.mp hq with rfl | hq
              · exact mo_iv 1 4 hI rfl (by omega) (by omega) (by decide)
              · rcases List.mem_cons.mp hq with rfl | hq
                · exact mo_iv 0 16 hI rfl (by omega) (by omega) (by decide)
                · rcases List.mem_cons.mp hq with rfl | hq
                  · exact mo_iv 0 0 hI rfl (by omega) (by omega) (by decide)
                  · rcases List.mem_cons.mp hq with rfl | hq
                    · exact mo_iv 0 0 hI rfl (by omega) (by omega) (by decide)
                    · cases hq
  · obtain ⟨⟨q1, q2, q3, q4, q5⟩, q6⟩ := q
    cases v with
    | some v => exact False.elim q1
    | none =>
      have p0 := at_num (p := 274439) (lo := 0) (hi := 1600) (q2 _ (List.mem_of_getElem? (i := 0) rfl)) (by decide)
      have p1 := at_num (p := 286721) (lo := 1) (hi := 4) (q2 _ (List.mem_of_getElem? (i := 1) rfl)) (by decide)
      have p2 := at_num (p := 294913) (lo := 1) (hi := 17) (q2 _ (List.mem_of_getElem? (i := 2) rfl)) (by decide)
      have p3 := at_num (p := 352258) (lo := 0) (hi := 0) (q2 _ (List.mem_of_getElem? (i := 3) rfl)) (by decide)
      have p4 := at_num (p := 352259) (lo := 1) (hi := 1) (q2 _ (List.mem_of_getElem? (i := 4) rfl)) (by decide)
      have s_rb : gv h1 274470 = gv h 274470 := gv_fr (q4 _ rfl rfl)
      have s_D : gv h1 299009 = gv h 299009 := gv_fr (q4 _ rfl rfl)
      have s_M : gv h1 303105 = gv h 303105 := gv_fr (q4 _ rfl rfl)
      have s_T : gv h1 356353 = gv h 356353 := gv_fr (q4 _ rfl rfl)
      have s_W : gv h1 360449 = gv h 360449 := gv_fr (q4 _ rfl rfl)
      have hl := q6 (294913, 2147483649) List.mem_cons_self
      unfold ai_gr at hl
      simp only at hl
      rw [rb_small (x := gv h 294913) (by omega), rb_small (x := gv h1 294913) (by omega)] at hl
      have fin : (gv h1 274436 ≠ 0 ∨ se_s1 h + 1 ≤ se_s1 h1) ∧ gv h1 294913 ≤ se_s1 h1 := by
        unfold se_s1 at g4 ⊢
        omega
      exact ⟨rfl, ⟨q3, q5, by omega, by omega, by omega, fin.2, ai_fr_trans g5 (ai_fr_of q4 (by decide))⟩, fin.1⟩
theorem rs_m_readLine_r1_r1_light01 (he : ai_env X B) {h0 h : fx_H} (hS : se_I1 h0 h) (hg : gv h 274436 = 0) (hs16 : se_s1 h ≤ 16) (ht1 : 3 ≤ gv h 274440) (ht2 : gv h 274440 ≤ 3) {nm : Nat} (hn1 : ai_pl h 274442 = some (fl nm)) (hn2 : ai_lo 465624852598 nm) (k352258 : gv h 352258 = 1) (k352259 : gv h 352259 = 0) : rx_met l X Y B 125 13 [fr 67] h (se_P1 h0 h) := by
  obtain ⟨hI, hP, g1, g2, g3, g4, g5⟩ := hS
  obtain ⟨t1, t2, t3, t4, t5, t6, t7, t8⟩ := se_top1 hI
  refine rx_met_mono (rx_met_deep (by decide : 13 ≤ 13) (ic_m_readLine_r1_r1_light01 he [fr 67] h ⟨rfl, trivial⟩ (fun q hq => ?_) hI hP)) (fun v h1 q => ?_)
  · rcases List.mem_cons.mp hq with rfl | hq
    · exact mo_iv 0 0 hI rfl (by omega) (by omega) (by decide)
    · rcases List.mem_cons.mp hq with rfl | hq
      · exact mo_iv 0 1600 hI rfl (by omega) (by omega) (by decide)
      · rcases List.mem_cons.mp hq with rfl | hq
        · exact mo_iv 3 3 hI rfl (by omega) (by omega) (by decide)
        · rcases List.mem_cons.mp hq with rfl | hq
          · exact ⟨_, hn1, nm, rfl, hn2⟩
          · rcases List.mem_cons.mp hq with rfl | hq
            · exact mo_iv 1 1 hI rfl (by omega) (by omega) (by decide)
            · rcases List.mem_cons.mp hq with rfl | hq
              · exact mo_iv 1 4 hI rfl (by omega) (by omega) (by decide)
              · rcases List.mem_cons.mp hq with rfl | hq
                · exact mo_iv 0 16 hI rfl (by omega) (by omega) (by decide)
                · rcases List.mem_cons.mp hq with rfl | hq
                  · exact mo_iv 1 1 hI rfl (by omega) (by omega) (by decide)
                  · rcases List.mem_cons.mp hq with rfl | hq
                    · exact mo_iv 0 0 hI rfl (by omega) (by omega) (by decide)
                    · cases hq
  · obtain ⟨⟨q1, q2, q3, q4, q5⟩, q6⟩ := q
    cases v with
    | some v => exact False.elim q1
    | none =>
      have p0 := at_num (p := 274439) (lo := 0) (hi := 1600) (q2 _ (List.mem_of_getElem? (i := 0) rfl)) (by decide)
      have p1 := at_num (p := 286721) (lo := 1) (hi := 4) (q2 _ (List.mem_of_getElem? (i := 1) rfl)) (by decide)
      have p2 := at_num (p := 294913) (lo := 1) (hi := 17) (q2 _ (List.mem_of_getElem? (i := 2) rfl)) (by decide)
      have p3 := at_num (p := 352258) (lo := 1) (hi := 1) (q2 _ (List.mem_of_getElem? (i := 3) rfl)) (by decide)
      have p4 := at_num (p := 352259) (lo := 1) (hi := 1) (q2 _ (List.mem_of_getElem? (i := 4) rfl)) (by decide)
      have s_rb : gv h1 274470 = gv h 274470 := gv_fr (q4 _ rfl rfl)
      have s_D : gv h1 299009 = gv h 299009 := gv_fr (q4 _ rfl rfl)
      have s_M : gv h1 303105 = gv h 303105 := gv_fr (q4 _ rfl rfl)
      have s_T : gv h1 356353 = gv h 356353 := gv_fr (q4 _ rfl rfl)
      have s_W : gv h1 360449 = gv h 360449 := gv_fr (q4 _ rfl rfl)
      have hl := q6 (294913, 2147483649) List.mem_cons_self
      unfold ai_gr at hl
      simp only at hl
      rw [rb_small (x := gv h 294913) (by omega), rb_small (x := gv h1 294913) (by omega)] at hl
      have fin : (gv h1 274436 ≠ 0 ∨ se_s1 h + 1 ≤ se_s1 h1) ∧ gv h1 294913 ≤ se_s1 h1 := by
        unfold se_s1 at g4 ⊢
        omega
      exact ⟨rfl, ⟨q3, q5, by omega, by omega, by omega, fin.2, ai_fr_trans g5 (ai_fr_of q4 (by decide))⟩, fin.1⟩
end SEN
