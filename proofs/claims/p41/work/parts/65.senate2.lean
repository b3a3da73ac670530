/-- what holds of the reference between two calls of the law -/
def mo_I (h : fx_H) : Prop := ai_inv ai_T0 h ∧ mo_P h ∧ (gv h 274469 = 1 → 1 ≤ gv h 286721) ∧ gv h 274485 + gv h 274486 ≤ 40
abbrev sn_m : ai_M := ([274434, 274435, 274436, 274437, 274438, 274439, 274440, 274441, 274442, 274469, 274470, 274471, 274472, 274473, 274474, 274485, 274486, 274489, 274501], [69, 70, 71, 72, 73, 74, 75, 76, 77, 78, 79, 80, 81, 82, 83, 84, 85, 86, 87, 88, 89, 90, 91, 92, 93, 94, 96, 113])
def sn_K (h : fx_H) : rx_K := fun v h' => (∃ x, v = some (fc x)) ∧ mo_I h' ∧ ai_fr sn_m h h'
section SN
variable {l : Launch} {X : fx_X} {Y : fx_Y} {B : fx_B}
theorem sn_end0 (he : ai_env X B) {h h0 : fx_H} (f0 : ai_fr sn_m h h0) (b0 : gv h0 274469 = 1) (a0 : gv h0 274485 + gv h0 274486 ≤ 40) : ∀ h1, se_I0 h0 h1 → ru l X Y B 14 fm_32.1 95 [(0, fr 67)] [] h1 (sn_K h) := by
  intro h1 hS
  have hu := hu_32
  obtain ⟨hI, hP, g1, g2, g3, g4, g5⟩ := hS
  have f1 : ai_fr sn_m h h1 := ai_fr_trans f0 (ai_fr_of g5 (by decide))
  refine w_ld he hu rfl rfl rfl rfl rfl ?_
  refine w_callM he hu hI rfl rfl rfl rfl (gd_met he hI) (fun v h2 q => ?_)
  obtain ⟨rfl, q⟩ := q
  rcases q with ⟨rfl, q⟩ | ⟨rfl, q⟩
  · refine w_cmp0 he hu rfl rfl rfl (ru_ne rfl) (fun c1 => ?_) (fun c1 => ?_)
    · refine w_ld he hu rfl rfl rfl rfl rfl ?_
      refine w_ld he hu rfl rfl rfl rfl rfl ?_
      refine w_gi 274470 he hu hI rfl rfl rfl rfl ?_
      have e1 := rb_small (x := gv h2 274470) (by omega)
      refine w_pi 274469 he hu hI rfl rfl rfl rfl (by omega) (by omega) (by omega) (fun h3 u3 hI3 => ?_)
      have b3 : gv h3 274469 = 0 := by rw [u3.at]; exact g1
      have c3 : gv h3 286721 = gv h2 286721 := u3.off (by decide)
      have P3 : mo_P h3 := mo_P_fr (m := ([274469], [])) rfl _ _ hP.1 (u3.fr (Or.inl rfl))
      refine w_ld he hu rfl rfl rfl rfl rfl ?_
      refine w_callM he hu hI3 rfl rfl rfl rfl (rx_met_deep (by decide : 1 ≤ 13) (ic_m_startAnew_b0_b0 he [fr 67] h3 ⟨rfl, trivial⟩ (fun q hq => ?_) hI3 trivial)) (fun v h4 q => ?_)
      · have hq : q ∈ [((274469, .inl (2147483648, 2147483648)) : Nat × ai_S)] := hq
        rcases List.mem_cons.mp hq with rfl | hq
        · exact mo_iv 0 0 hI3 rfl (by omega) (by omega) (by decide)
        · cases hq
      · obtain ⟨q1, q2, q3, q4, -⟩ := q
        cases v with
        | some v => exact False.elim q1
        | none =>
          have p0 := at_num (p := 274485) (lo := 0) (hi := 0) (q2 _ (List.mem_of_getElem? (i := 0) rfl)) (by decide)
          have p1 := at_num (p := 274486) (lo := 0) (hi := 0) (q2 _ (List.mem_of_getElem? (i := 1) rfl)) (by decide)
          have b4 : gv h4 274469 = gv h3 274469 := gv_fr (q4 _ rfl rfl)
          have c4 : gv h4 286721 = gv h3 286721 := gv_fr (q4 _ rfl rfl)
          have P4 : mo_P h4 := mo_P_fr rfl _ _ P3 q4
          have f4 : ai_fr sn_m h h4 := ai_fr_trans f1 (ai_fr_trans (u3.fr (Or.inl rfl)) (ai_fr_of q4 (by decide)))
          refine w_ld he hu rfl rfl rfl rfl rfl ?_
          refine w_gr 274447 74 he hu q3 rfl rfl rfl rfl ?_
          refine w_ld he hu rfl rfl rfl rfl rfl ?_
          refine w_gi 274469 he hu q3 rfl rfl rfl rfl ?_
          refine w_ald he hu q3 rfl rfl rfl rfl (by omega) ?_
          exact w_iret he hu rfl rfl ⟨⟨_, rfl⟩, ⟨q3, P4, fun _ => by omega, by omega⟩, f4⟩
    · rw [rc_ne0 (by decide)] at c1
      cases c1
  · refine w_cmp0 he hu rfl rfl rfl (ru_ne rfl) (fun c1 => ?_) (fun c1 => ?_)
    · rw [rc_ne0 (by decide)] at c1
      cases c1
    · have b4 : gv h2 274469 = gv h0 274469 := gv_fr (g5 _ rfl rfl)
      have a4 : gv h2 274485 = gv h0 274485 := gv_fr (g5 _ rfl rfl)
      have a5 : gv h2 274486 = gv h0 274486 := gv_fr (g5 _ rfl rfl)
      refine w_c he hu rfl rfl rfl rfl ?_
      exact w_iret he hu rfl rfl ⟨⟨_, rfl⟩, ⟨hI, hP.1, fun _ => g3, by omega⟩, f1⟩
theorem sn_read0 (he : ai_env X B) {h h0 : fx_H} (hI : ai_inv ai_T0 h0) (hP : mo_P h0) (g1 : gv h0 274470 = 0) (g2 : 1 ≤ gv h0 286721) (ge : gv h0 274439 = 0) (f0 : ai_fr sn_m h h0) (b0 : gv h0 274469 = 1) (a0 : gv h0 274485 + gv h0 274486 ≤ 40) : ru l X Y B 14 fm_32.1 66 [(0, fr 67)] [] h0 (sn_K h) := by
  have hu := hu_32
  refine w_ld he hu rfl rfl rfl rfl rfl ?_
  refine w_callM he hu hI rfl rfl rfl rfl (se_clear0 he hI hP g1 g2) (fun v h1 q => ?_)
  obtain ⟨rfl, hI1, hP1, c1, l1, f1⟩ := q
  have e1 : gv h1 274470 = gv h0 274470 := gv_fr (f1 _ rfl rfl)
  have e2 : gv h1 274439 = gv h0 274439 := gv_fr (f1 _ rfl rfl)
  refine w_ld he hu rfl rfl rfl rfl rfl ?_
  refine w_callM he hu hI1 rfl rfl rfl rfl (go_met (d := 12) he hI1 (by omega)) (fun v h2 q => ?_)
  obtain ⟨rfl, hI2, ge2, f2⟩ := q
  have e3 : gv h2 274470 = gv h1 274470 := gv_fr (f2 _ rfl rfl)
  have e4 : gv h2 286721 = gv h1 286721 := gv_fr (f2 _ rfl rfl)
  have e5 : gv h2 294912 = gv h1 294912 := gv_fr (f2 _ rfl rfl)
  have P2 : mo_PQ h2 := mo_PQ_fr rfl _ _ hP1 f2
  have hS : se_I0 h0 h2 := ⟨hI2, P2, by omega, ge2, by omega, by omega, ai_fr_trans (ai_fr_of f1 (by decide)) (ai_fr_of f2 (by decide))⟩
  exact se_loop0 he (sn_end0 he f0 b0 a0) 17 h2 hS (fun _ => by omega)
theorem sn_end1 (he : ai_env X B) {h h0 : fx_H} (f0 : ai_fr sn_m h h0) (b0 : gv h0 274469 = 0) (a0 : gv h0 274485 + gv h0 274486 ≤ 40) : ∀ h1, se_I1 h0 h1 → ru l X Y B 14 fm_32.1 95 [(0, fr 67)] [] h1 (sn_K h) := by
  intro h1 hS
  have hu := hu_32
  obtain ⟨hI, hP, g1, g2, g3, g4, g5⟩ := hS
  have f1 : ai_fr sn_m h h1 := ai_fr_trans f0 (ai_fr_of g5 (by decide))
  refine w_ld he hu rfl rfl rfl rfl rfl ?_
  refine w_callM he hu hI rfl rfl rfl rfl (gd_met he hI) (fun v h2 q => ?_)
  obtain ⟨rfl, q⟩ := q
  rcases q with ⟨rfl, q⟩ | ⟨rfl, q⟩
  · refine w_cmp0 he hu rfl rfl rfl (ru_ne rfl) (fun c1 => ?_) (fun c1 => ?_)
    · refine w_ld he hu rfl rfl rfl rfl rfl ?_
      refine w_ld he hu rfl rfl rfl rfl rfl ?_
      refine w_gi 274470 he hu hI rfl rfl rfl rfl ?_
      have e1 := rb_small (x := gv h2 274470) (by omega)
      refine w_pi 274469 he hu hI rfl rfl rfl rfl (by omega) (by omega) (by omega) (fun h3 u3 hI3 => ?_)
      have b3 : gv h3 274469 = 1 := by rw [u3.at]; exact g1
      have c3 : gv h3 286721 = gv h2 286721 := u3.off (by decide)
      have P3 : mo_P h3 := mo_P_fr (m := ([274469], [])) rfl _ _ hP.1 (u3.fr (Or.inl rfl))
      refine w_ld he hu rfl rfl rfl rfl rfl ?_
      refine w_callM he hu hI3 rfl rfl rfl rfl (rx_met_deep (by decide : 1 ≤ 13) (ic_m_startAnew_b1_b1 he [fr 67] h3 ⟨rfl, trivial⟩ (fun q hq => ?_) hI3 trivial)) (fun v h4 q => ?_)
      · have hq : q ∈ [((274469, .inl (2147483649, 2147483649)) : Nat × ai_S)] := hq
        rcases List.mem_cons.mp hq with rfl | hq
        · exact mo_iv 1 1 hI3 rfl (by omega) (by omega) (by decide)
        · cases hq
      · obtain ⟨q1, q2, q3, q4, -⟩ := q
        cases v with
        | some v => exact False.elim q1
        | none =>
          have p0 := at_num (p := 274485) (lo := 0) (hi := 0) (q2 _ (List.mem_of_getElem? (i := 0) rfl)) (by decide)
          have p1 := at_num (p := 274486) (lo := 0) (hi := 0) (q2 _ (List.mem_of_getElem? (i := 1) rfl)) (by decide)
          have b4 : gv h4 274469 = gv h3 274469 := gv_fr (q4 _ rfl rfl)
          have c4 : gv h4 286721 = gv h3 286721 := gv_fr (q4 _ rfl rfl)
          have P4 : mo_P h4 := mo_P_fr rfl _ _ P3 q4
          have f4 : ai_fr sn_m h h4 := ai_fr_trans f1 (ai_fr_trans (u3.fr (Or.inl rfl)) (ai_fr_of q4 (by decide)))
          refine w_ld he hu rfl rfl rfl rfl rfl ?_
          refine w_gr 274447 74 he hu q3 rfl rfl rfl rfl ?_
          refine w_ld he hu rfl rfl rfl rfl rfl ?_
          refine w_gi 274469 he hu q3 rfl rfl rfl rfl ?_
          refine w_ald he hu q3 rfl rfl rfl rfl (by omega) ?_
          exact w_iret he hu rfl rfl ⟨⟨_, rfl⟩, ⟨q3, P4, fun _ => by omega, by omega⟩, f4⟩
    · rw [rc_ne0 (by decide)] at c1
      cases c1
  · refine w_cmp0 he hu rfl rfl rfl (ru_ne rfl) (fun c1 => ?_) (fun c1 => ?_)
    · rw [rc_ne0 (by decide)] at c1
      cases c1
    · have b4 : gv h2 274469 = gv h0 274469 := gv_fr (g5 _ rfl rfl)
      have a4 : gv h2 274485 = gv h0 274485 := gv_fr (g5 _ rfl rfl)
      have a5 : gv h2 274486 = gv h0 274486 := gv_fr (g5 _ rfl rfl)
      refine w_c he hu rfl rfl rfl rfl ?_
      exact w_iret he hu rfl rfl ⟨⟨_, rfl⟩, ⟨hI, hP.1, fun _ => g3, by omega⟩, f1⟩
theorem sn_read1 (he : ai_env X B) {h h0 : fx_H} (hI : ai_inv ai_T0 h0) (hP : mo_P h0) (g1 : gv h0 274470 = 1) (ge : gv h0 274439 = 0) (f0 : ai_fr sn_m h h0) (b0 : gv h0 274469 = 0) (a0 : gv h0 274485 + gv h0 274486 ≤ 40) : ru l X Y B 14 fm_32.1 66 [(0, fr 67)] [] h0 (sn_K h) := by
  have hu := hu_32
  refine w_ld he hu rfl rfl rfl rfl rfl ?_
  refine w_callM he hu hI rfl rfl rfl rfl (se_clear1 he hI hP g1) (fun v h1 q => ?_)
  obtain ⟨rfl, hI1, hP1, c1, l1, f1⟩ := q
  have e1 : gv h1 274470 = gv h0 274470 := gv_fr (f1 _ rfl rfl)
  have e2 : gv h1 274439 = gv h0 274439 := gv_fr (f1 _ rfl rfl)
  refine w_ld he hu rfl rfl rfl rfl rfl ?_
  refine w_callM he hu hI1 rfl rfl rfl rfl (go_met (d := 12) he hI1 (by omega)) (fun v h2 q => ?_)
  obtain ⟨rfl, hI2, ge2, f2⟩ := q
  have e3 : gv h2 274470 = gv h1 274470 := gv_fr (f2 _ rfl rfl)
  have e4 : gv h2 286721 = gv h1 286721 := gv_fr (f2 _ rfl rfl)
  have e5 : gv h2 294913 = gv h1 294913 := gv_fr (f2 _ rfl rfl)
  have P2 : mo_PQ h2 := mo_PQ_fr rfl _ _ hP1 f2
  have hS : se_I1 h0 h2 := ⟨hI2, P2, by omega, ge2, by omega, by omega, ai_fr_trans (ai_fr_of f1 (by decide)) (ai_fr_of f2 (by decide))⟩
  exact se_loop1 he (sn_end1 he f0 b0 a0) 17 h2 hS (fun _ => by omega)
theorem sn_met (he : ai_env X B) {h : fx_H} (hM : mo_I h) : rx_met l X Y B 32 14 [fr 67] h (sn_K h) := by
  obtain ⟨hI, hP, hc, ha⟩ := hM
  refine ru_met (M := fm_32) rfl rfl (by simp [fm_32]) ?_
  have hu := hu_32
  refine w_ld he hu rfl rfl rfl rfl rfl ?_
  refine w_c he hu rfl rfl rfl rfl ?_
  refine w_pi 274436 he hu hI rfl rfl rfl rfl (by decide) (by decide) (by decide) (fun h1 u1 hI1 => ?_)
  have P1 : mo_P h1 := mo_P_fr (m := ([274436], [])) rfl _ _ hP (u1.fr (Or.inl rfl))
  refine w_ld he hu rfl rfl rfl rfl rfl ?_
  refine w_c he hu rfl rfl rfl rfl ?_
  refine w_pi 274437 he hu hI1 rfl rfl rfl rfl (by decide) (by decide) (by decide) (fun h2 u2 hI2 => ?_)
  have P2 : mo_P h2 := mo_P_fr (m := ([274437], [])) rfl _ _ P1 (u2.fr (Or.inl rfl))
  have s2 := (gv_nat (p := 274434) (lo := 0) (hi := 1600) hI2 rfl (by decide)).2.2
  have e2 := rb_small (x := gv h2 274434) (by omega)
  refine w_ld he hu rfl rfl rfl rfl rfl ?_
  refine w_ld he hu rfl rfl rfl rfl rfl ?_
  refine w_gi 274434 he hu hI2 rfl rfl rfl rfl ?_
  refine w_pi 274435 he hu hI2 rfl rfl rfl rfl (by omega) (by omega) (by omega) (fun h3 u3 hI3 => ?_)
  have P3 : mo_P h3 := mo_P_fr (m := ([274435], [])) rfl _ _ P2 (u3.fr (Or.inl rfl))
  have f3 : ai_fr sn_m h h3 := ai_fr_trans (u1.fr (Or.inl rfl)) (ai_fr_trans (u2.fr (Or.inl rfl)) (u3.fr (Or.inl rfl)))
  have k3 : ∀ p, p ≠ 274436 → p ≠ 274437 → p ≠ 274435 → gv h3 p = gv h p := fun p a b c => by rw [u3.off c, u2.off b, u1.off a]
  refine w_c he hu rfl rfl rfl rfl ?_
  refine w_st he hu rfl rfl rfl rfl ?_
  refine se_copy he (gv h3 274435) 0 h3 (by omega) hI3 (fun h4 hI4 f4 => ?_)
  have P4 : mo_P h4 := mo_P_fr rfl _ _ P3 f4
  refine w_ld he hu rfl rfl rfl rfl rfl ?_
  refine w_c he hu rfl rfl rfl rfl ?_
  refine w_pi 274434 he hu hI4 rfl rfl rfl rfl (by decide) (by decide) (by decide) (fun h5 u5 hI5 => ?_)
  have P5 : mo_P h5 := mo_P_fr (m := ([274434], [])) rfl _ _ P4 (u5.fr (Or.inl rfl))
  refine w_ld he hu rfl rfl rfl rfl rfl ?_
  refine w_c he hu rfl rfl rfl rfl ?_
  refine w_pi 274439 he hu hI5 rfl rfl rfl rfl (by decide) (by decide) (by decide) (fun h6 u6 hI6 => ?_)
  have P6 : mo_P h6 := mo_P_fr (m := ([274439], [])) rfl _ _ P5 (u6.fr (Or.inl rfl))
  have s6 := (gv_nat (p := 274469) (lo := 0) (hi := 1) hI6 rfl (by decide)).2.2
  refine w_ld he hu rfl rfl rfl rfl rfl ?_
  refine w_c he hu rfl rfl rfl rfl ?_
  refine w_ld he hu rfl rfl rfl rfl rfl ?_
  refine w_gi 274469 he hu hI6 rfl rfl rfl rfl ?_
  refine w_bin hu rfl rfl (fun q => by omega) ?_
  rw [rop_sub (by omega) (by omega)]
  have e6 := rb_small (x := 1 - gv h6 274469) (by omega)
  refine w_pi 274470 he hu hI6 rfl rfl rfl rfl (by omega) (by omega) (by omega) (fun h7 u7 hI7 => ?_)
  have P7 : mo_P h7 := mo_P_fr (m := ([274470], [])) rfl _ _ P6 (u7.fr (Or.inl rfl))
  have r7 : gv h7 274470 = 1 - gv h6 274469 := u7.at
  have d7 : gv h7 274439 = 0 := by rw [u7.off (by decide)]; exact u6.at
  have f7 : ai_fr sn_m h h7 := ai_fr_trans f3 (ai_fr_trans (ai_fr_of f4 (by decide)) (ai_fr_trans (u5.fr (Or.inl rfl)) (ai_fr_trans (u6.fr (Or.inl rfl)) (u7.fr (Or.inl rfl)))))
  have k7 : ∀ p, p ≠ 274436 → p ≠ 274437 → p ≠ 274435 → p ≠ 274434 → p ≠ 274439 → p ≠ 274470 → ai_mem [69] (p / 4096) = false → gv h7 p = gv h p := fun p a b c e f g i => by rw [u7.off g, u6.off f, u5.off e, gv_fr (f4 _ rfl i), k3 p a b c]
  have b7 : gv h7 274469 = gv h 274469 := k7 _ (by decide) (by decide) (by decide) (by decide) (by decide) (by decide) rfl
  have b6 : gv h7 274469 = gv h6 274469 := u7.off (by decide)
  have c7 : gv h7 286721 = gv h 286721 := k7 _ (by decide) (by decide) (by decide) (by decide) (by decide) (by decide) rfl
  have a7 : gv h7 274485 = gv h 274485 := k7 _ (by decide) (by decide) (by decide) (by decide) (by decide) (by decide) rfl
  have a8 : gv h7 274486 = gv h 274486 := k7 _ (by decide) (by decide) (by decide) (by decide) (by decide) (by decide) rfl
  by_cases hb : gv h 274469 = 1
  · have := hc hb
    exact sn_read0 he hI7 P7 (by omega) (by omega) d7 f7 (by omega) (by omega)
  · exact sn_read1 he hI7 P7 (by omega) d7 f7 (by omega) (by omega)
end SN
