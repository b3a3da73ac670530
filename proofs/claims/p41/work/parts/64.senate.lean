theorem hu_32 : ru_u fm_32.1 = true := by decide +kernel
theorem ai_lo_c {c n : Nat} (h : Int64.ofNat n = Int64.ofNat c) : ai_lo (c + 2) n := h
theorem w_astB {l : Launch} {X : fx_X} {Y : fx_Y} {B : fx_B} {d : Nat} {cod : List fx_I} {K : rx_K} {loc : fx_L} {stk : List fx_V} {h : fx_H} {pc b c nx : Nat} {r i len x : Nat} {L : List (Nat × Nat)} {q : Nat × Nat} (hu : ru_u cod = true) (hI : ai_inv ai_T0 h) (hat : ru_e cod pc = some (8, 1, b, c, nx)) (hl : nx = pc + (0 + 1)) (hc : ai_cell ai_T0 r = some (.inr (1, len, L))) (h4 : Nat.blt len 4096 = true) (hi : i < len) (hq : L[i % L.length]? = some q) (h1 : q.1 ≤ 2147483520) (h2 : 2147483775 ≤ q.2) (k : ∀ h' z, ru_upd h h' (r * 4096 + i) (fc z) → ai_inv ai_T0 h' → ru l X Y B d cod nx loc stk h' K) : ru l X Y B d cod pc loc (fc x :: fc i :: fr r :: stk) h K := ru_raw hu hat (fun tl ht => by
  obtain ⟨u, k1, k2⟩ := ai_arr hI hc
  refine rx_bst k1 (Or.inl rfl) hi (fun z z1 z2 z3 => ?_)
  exact ru_aset hI hc k1 k2 (fx_blt h4) (by decide) hi hq z1 (Nat.le_trans h1 (z2 rfl).1) (Nat.le_trans (z2 rfl).2.1 h2) _ (fun h' e1 e2 => ru_nx ht hl (k h' z e1 e2)))
section SE
variable {l : Launch} {X : fx_X} {Y : fx_Y} {B : fx_B} {K : rx_K} {d : Nat}
/-- the text is taken from the tape -/
theorem se_copy (he : ai_env X B) : ∀ n i h, n + i = gv h 274435 → ai_inv ai_T0 h → (∀ h', ai_inv ai_T0 h' → ai_fr ([], [69]) h h' → ru l X Y B d fm_32.1 46 [(0, fr 67)] [] h' K) → ru l X Y B d fm_32.1 20 [(1, fc i), (0, fr 67)] [] h K := by
  have hu := hu_32
  intro n
  induction n with
  | zero =>
    intro i h hk hI kk
    have s2 := (gv_nat (p := 274435) (lo := 0) (hi := 1600) hI rfl (by decide)).2.2
    refine w_ld he hu rfl rfl rfl rfl rfl ?_
    refine w_ld he hu rfl rfl rfl rfl rfl ?_
    refine w_gi 274435 he hu hI rfl rfl rfl rfl ?_
    refine w_cmp he hu rfl rfl rfl (ru_ne rfl) (fun c1 => ?_) (fun c1 => ?_)
    · exact ru_sub [(0, fr 67)] ⟨rfl, trivial⟩ (kk h hI ai_fr_refl)
    · rw [rc_ge (by omega) (by omega)] at c1
      have := fx_nle c1
      omega
  | succ n ih =>
    intro i h hk hI kk
    have s2 := (gv_nat (p := 274435) (lo := 0) (hi := 1600) hI rfl (by decide)).2.2
    refine w_ld he hu rfl rfl rfl rfl rfl ?_
    refine w_ld he hu rfl rfl rfl rfl rfl ?_
    refine w_gi 274435 he hu hI rfl rfl rfl rfl ?_
    refine w_cmp he hu rfl rfl rfl (ru_ne rfl) (fun c1 => ?_) (fun c1 => ?_)
    · rw [rc_ge (by omega) (by omega)] at c1
      have := fx_ble c1
      omega
    · refine w_ld he hu rfl rfl rfl rfl rfl ?_
      refine w_gr 274433 69 he hu hI rfl rfl rfl rfl ?_
      refine w_ld he hu rfl rfl rfl rfl rfl ?_
      refine w_ld he hu rfl rfl rfl rfl rfl ?_
      refine w_gr 274432 68 he hu hI rfl rfl rfl rfl ?_
      refine w_ld he hu rfl rfl rfl rfl rfl ?_
      refine w_ald he hu hI rfl rfl rfl rfl (by omega) ?_
      refine w_astB (q := (2147483520, 2147483775)) hu hI rfl rfl rfl rfl (by omega) (by rw [show i % ([(2147483520, 2147483775)] : List (Nat × Nat)).length = 0 by show i % 1 = 0; omega]; rfl) (Nat.le_refl _) (Nat.le_refl _) (fun h1 z u1 hI1 => ?_)
      refine w_inc he hu rfl rfl rfl ?_
      rw [rm_inc (by omega)]
      refine w_go he hu rfl (ru_ne rfl) ?_
      have f1 : ai_fr ([], [69]) h h1 := u1.fr (Or.inr (by rw [show (69 * 4096 + i) / 4096 = 69 by omega]; rfl))
      refine ih (i + 1) h1 ?_ hI1 (fun h' i1 i2 => kk h' i1 (ai_fr_trans f1 i2))
      rw [u1.off (by omega)]
      omega
theorem se_clear0 (he : ai_env X B) {h : fx_H} (hI : ai_inv ai_T0 h) (hP : mo_P h) (g1 : gv h 274470 = 0) (g2 : 1 ≤ gv h 286721) : rx_met l X Y B 24 13 [fr 67] h (fun v h' => v = none ∧ ai_inv ai_T0 h' ∧ mo_PQ h' ∧ 1 ≤ gv h' 286721 ∧ gv h' 294912 = 0 ∧ ai_fr ([274471], [70, 71, 72, 73, 74, 75, 76, 77, 78, 86, 87, 88]) h h') := by
  obtain ⟨t1, t2, t3, t4, t5, t6, t7, t8⟩ := se_top1 hI
  have key : ∀ (v : Option fx_V) (h1 : fx_H), v = none → ai_inv ai_T0 h1 → ai_fr ([274471], [70, 71, 72, 73, 74, 75, 76, 77, 78, 86, 87, 88]) h h1 → gv h1 274471 = 0 → gv h1 352256 = 0 → gv h1 352257 = 0 → gv h1 352258 = gv h 352258 → gv h1 352259 = gv h 352259 → 1 ≤ gv h1 286721 → gv h1 294912 = 0 → (v = none ∧ ai_inv ai_T0 h1 ∧ mo_PQ h1 ∧ 1 ≤ gv h1 286721 ∧ gv h1 294912 = 0 ∧ ai_fr ([274471], [70, 71, 72, 73, 74, 75, 76, 77, 78, 86, 87, 88]) h h1) := by
    intro v h1 rv q3 q4 a1 a2 a3 a4 a5 a6 a7
    refine ⟨rv, q3, ⟨fun b s hb hs => ?_, fun b hb hq => ?_⟩, a6, a7, q4⟩
    · by_cases e : b = 0
      · subst e
        intro q
        have : s = 0 ∨ s = 1 := by omega
        rcases this with rfl | rfl
        · exact absurd (q.symm.trans a2) (by decide)
        · exact absurd (q.symm.trans a3) (by decide)
      · have e : b = 1 := by omega
        subst e
        have fl : gv h1 (86 * 4096 + (2 * 1 + s)) = gv h (86 * 4096 + (2 * 1 + s)) := by
          have : s = 0 ∨ s = 1 := by omega
          rcases this with rfl | rfl
          · exact a4
          · exact a5
        have un : ∀ c, c ∈ [84, 85, 91] → ∀ i, i < 4096 → gv h1 (c * 4096 + i) = gv h (c * 4096 + i) := fun c hc i hi => by
          have hc : c = 84 ∨ c = 85 ∨ c = 91 := by simpa using hc
          refine gv_fr (q4 _ (mo_mem_no (fun y hy e => ?_)) (mo_mem_no (fun y hy e => ?_)))
          · have hy : y = 274471 := by simpa using hy
            omega
          · have hy : y = 70 ∨ y = 71 ∨ y = 72 ∨ y = 73 ∨ y = 74 ∨ y = 75 ∨ y = 76 ∨ y = 77 ∨ y = 78 ∨ y = 86 ∨ y = 87 ∨ y = 88 := by simpa using hy
            rw [ai_p1 hi] at e
            omega
        have hs0 := hP 1 s (by decide) hs
        unfold mo_seg at hs0 ⊢
        rw [fl, un 84 (by decide) _ (by omega), un 85 (by decide) _ (by omega)]
        intro q
        obtain ⟨z1, z2, z3, z4⟩ := hs0 q
        exact ⟨z1, z2, z3, mo_wf_ext (fun i h5 h6 => un 91 (by decide) i (by omega)) z4⟩
    · have g5 : gv h1 274470 = gv h 274470 := gv_fr (q4 _ rfl rfl)
      have e : b = 0 := by omega
      subst e
      refine ⟨by omega, by omega, fun s hs q => ?_⟩
      have : s = 0 ∨ s = 1 := by omega
      rcases this with rfl | rfl
      · exact absurd (q.symm.trans a2) (by decide)
      · exact absurd (q.symm.trans a3) (by decide)
  have hx : gv h 352258 = 0 ∨ gv h 352258 = 1 := by omega
  have hy : gv h 352259 = 0 ∨ gv h 352259 = 1 := by omega
  rcases hx with hx | hx <;> rcases hy with hy | hy
  · refine rx_met_mono (rx_met_deep (by decide : 0 ≤ 13) (ic_m_clearBank_r0_r0_00 he [fr 67] h ⟨rfl, trivial⟩ (fun q hq => ?_) hI trivial)) (fun v h1 q => ?_)
    · have hq : q ∈ [((274470, .inl (2147483648, 2147483648)) : Nat × ai_S), ((286721, .inl (2147483649, 2147483652)) : Nat × ai_S), ((352258, .inl (2147483648, 2147483648)) : Nat × ai_S), ((352259, .inl (2147483648, 2147483648)) : Nat × ai_S)] := hq
      rcases List.mem_cons.mp hq with rfl | hq
      · exact mo_iv 0 0 hI rfl (by omega) (by omega) (by decide)
      rcases List.mem_cons.mp hq with rfl | hq
      · exact mo_iv 1 4 hI rfl (by omega) (by omega) (by decide)
      rcases List.mem_cons.mp hq with rfl | hq
      · exact mo_iv 0 0 hI rfl (by omega) (by omega) (by decide)
      rcases List.mem_cons.mp hq with rfl | hq
      · exact mo_iv 0 0 hI rfl (by omega) (by omega) (by decide)
      cases hq
    · obtain ⟨q1, q2, q3, q4, -⟩ := q
      cases v with
      | some v => exact False.elim q1
      | none =>
        have p0 := at_num (p := 274471) (lo := 0) (hi := 0) (q2 _ (List.mem_of_getElem? (i := 0) rfl)) (by decide)
        have p1 := at_num (p := 352256) (lo := 0) (hi := 0) (q2 _ (List.mem_of_getElem? (i := 7) rfl)) (by decide)
        have p2 := at_num (p := 352257) (lo := 0) (hi := 0) (q2 _ (List.mem_of_getElem? (i := 8) rfl)) (by decide)
        have p3 := at_num (p := 352258) (lo := 0) (hi := 0) (q2 _ (List.mem_of_getElem? (i := 9) rfl)) (by decide)
        have p4 := at_num (p := 352259) (lo := 0) (hi := 0) (q2 _ (List.mem_of_getElem? (i := 10) rfl)) (by decide)
        have p5 := at_num (p := 286721) (lo := 1) (hi := 4) (q2 _ (List.mem_of_getElem? (i := 2) rfl)) (by decide)
        have p6 := at_num (p := 294912) (lo := 0) (hi := 0) (q2 _ (List.mem_of_getElem? (i := 3) rfl)) (by decide)
        exact key none h1 rfl q3 q4 (by omega) (by omega) (by omega) (by omega) (by omega) (by omega) (by omega)
  · refine rx_met_mono (rx_met_deep (by decide : 0 ≤ 13) (ic_m_clearBank_r0_r0_01 he [fr 67] h ⟨rfl, trivial⟩ (fun q hq => ?_) hI trivial)) (fun v h1 q => ?_)
    · have hq : q ∈ [((274470, .inl (2147483648, 2147483648)) : Nat × ai_S), ((286721, .inl (2147483649, 2147483652)) : Nat × ai_S), ((352258, .inl (2147483648, 2147483648)) : Nat × ai_S), ((352259, .inl (2147483649, 2147483649)) : Nat × ai_S)] := hq
      rcases List.mem_cons.mp hq with rfl | hq
      · exact mo_iv 0 0 hI rfl (by omega) (by omega) (by decide)
      rcases List.mem_cons.mp hq with rfl | hq
      · exact mo_iv 1 4 hI rfl (by omega) (by omega) (by decide)
      rcases List.mem_cons.mp hq with rfl | hq
      · exact mo_iv 0 0 hI rfl (by omega) (by omega) (by decide)
      rcases List.mem_cons.mp hq with rfl | hq
      · exact mo_iv 1 1 hI rfl (by omega) (by omega) (by decide)
      cases hq
    · obtain ⟨q1, q2, q3, q4, -⟩ := q
      cases v with
      | some v => exact False.elim q1
      | none =>
        have p0 := at_num (p := 274471) (lo := 0) (hi := 0) (q2 _ (List.mem_of_getElem? (i := 0) rfl)) (by decide)
        have p1 := at_num (p := 352256) (lo := 0) (hi := 0) (q2 _ (List.mem_of_getElem? (i := 7) rfl)) (by decide)
        have p2 := at_num (p := 352257) (lo := 0) (hi := 0) (q2 _ (List.mem_of_getElem? (i := 8) rfl)) (by decide)
        have p3 := at_num (p := 352258) (lo := 0) (hi := 0) (q2 _ (List.mem_of_getElem? (i := 9) rfl)) (by decide)
        have p4 := at_num (p := 352259) (lo := 1) (hi := 1) (q2 _ (List.mem_of_getElem? (i := 10) rfl)) (by decide)
        have p5 := at_num (p := 286721) (lo := 1) (hi := 4) (q2 _ (List.mem_of_getElem? (i := 2) rfl)) (by decide)
        have p6 := at_num (p := 294912) (lo := 0) (hi := 0) (q2 _ (List.mem_of_getElem? (i := 3) rfl)) (by decide)
        exact key none h1 rfl q3 q4 (by omega) (by omega) (by omega) (by omega) (by omega) (by omega) (by omega)
  · refine rx_met_mono (rx_met_deep (by decide : 0 ≤ 13) (ic_m_clearBank_r0_r0_10 he [fr 67] h ⟨rfl, trivial⟩ (fun q hq => ?_) hI trivial)) (fun v h1 q => ?_)
    · have hq : q ∈ [((274470, .inl (2147483648, 2147483648)) : Nat × ai_S), ((286721, .inl (2147483649, 2147483652)) : Nat × ai_S), ((352258, .inl (2147483649, 2147483649)) : Nat × ai_S), ((352259, .inl (2147483648, 2147483648)) : Nat × ai_S)] := hq
      rcases List.mem_cons.mp hq with rfl | hq
      · exact mo_iv 0 0 hI rfl (by omega) (by omega) (by decide)
      rcases List.mem_cons.mp hq with rfl | hq
      · exact mo_iv 1 4 hI rfl (by omega) (by omega) (by decide)
      rcases List.mem_cons.mp hq with rfl | hq
      · exact mo_iv 1 1 hI rfl (by omega) (by omega) (by decide)
      rcases List.mem_cons.mp hq with rfl | hq
      · exact mo_iv 0 0 hI rfl (by omega) (by omega) (by decide)
      cases hq
    · obtain ⟨q1, q2, q3, q4, -⟩ := q
      cases v with
      | some v => exact False.elim q1
      | none =>
        have p0 := at_num (p := 274471) (lo := 0) (hi := 0) (q2 _ (List.mem_of_getElem? (i := 0) rfl)) (by decide)
        have p1 := at_num (p := 352256) (lo := 0) (hi := 0) (q2 _ (List.mem_of_getElem? (i := 7) rfl)) (by decide)
        have p2 := at_num (p := 352257) (lo := 0) (hi := 0) (q2 _ (List.mem_of_getElem? (i := 8) rfl)) (by decide)
        have p3 := at_num (p := 352258) (lo := 1) (hi := 1) (q2 _ (List.mem_of_getElem? (i := 9) rfl)) (by decide)
        have p4 := at_num (p := 352259) (lo := 0) (hi := 0) (q2 _ (List.mem_of_getElem? (i := 10) rfl)) (by decide)
        have p5 := at_num (p := 286721) (lo := 1) (hi := 4) (q2 _ (List.mem_of_getElem? (i := 2) rfl)) (by decide)
        have p6 := at_num (p := 294912) (lo := 0) (hi := 0) (q2 _ (List.mem_of_getElem? (i := 3) rfl)) (by decide)
        exact key none h1 rfl q3 q4 (by omega) (by omega) (by omega) (by omega) (by omega) (by omega) (by omega)
  · refine rx_met_mono (rx_met_deep (by decide : 0 ≤ 13) (ic_m_clearBank_r0_r0_11 he [fr 67] h ⟨rfl, trivial⟩ (fun q hq => ?_) hI trivial)) (fun v h1 q => ?_)
    · have hq : q ∈ [((274470, .inl (2147483648, 2147483648)) : Nat × ai_S), ((286721, .inl (2147483649, 2147483652)) : Nat × ai_S), ((352258, .inl (2147483649, 2147483649)) : Nat × ai_S), ((352259, .inl (2147483649, 2147483649)) : Nat × ai_S)] := hq
      rcases List.mem_cons.mp hq with rfl | hq
      · exact mo_iv 0 0 hI rfl (by omega) (by omega) (by decide)
      rcases List.mem_cons.mp hq with rfl | hq
      · exact mo_iv 1 4 hI rfl (by omega) (by omega) (by decide)
      rcases List.mem_cons.mp hq with rfl | hq
      · exact mo_iv 1 1 hI rfl (by omega) (by omega) (by decide)
      rcases List.mem_cons.mp hq with rfl | hq
      · exact mo_iv 1 1 hI rfl (by omega) (by omega) (by decide)
      cases hq
    · obtain ⟨q1, q2, q3, q4, -⟩ := q
      cases v with
      | some v => exact False.elim q1
      | none =>
        have p0 := at_num (p := 274471) (lo := 0) (hi := 0) (q2 _ (List.mem_of_getElem? (i := 0) rfl)) (by decide)
        have p1 := at_num (p := 352256) (lo := 0) (hi := 0) (q2 _ (List.mem_of_getElem? (i := 7) rfl)) (by decide)
        have p2 := at_num (p := 352257) (lo := 0) (hi := 0) (q2 _ (List.mem_of_getElem? (i := 8) rfl)) (by decide)
        have p3 := at_num (p := 352258) (lo := 1) (hi := 1) (q2 _ (List.mem_of_getElem? (i := 9) rfl)) (by decide)
        have p4 := at_num (p := 352259) (lo := 1) (hi := 1) (q2 _ (List.mem_of_getElem? (i := 10) rfl)) (by decide)
        have p5 := at_num (p := 286721) (lo := 1) (hi := 4) (q2 _ (List.mem_of_getElem? (i := 2) rfl)) (by decide)
        have p6 := at_num (p := 294912) (lo := 0) (hi := 0) (q2 _ (List.mem_of_getElem? (i := 3) rfl)) (by decide)
        exact key none h1 rfl q3 q4 (by omega) (by omega) (by omega) (by omega) (by omega) (by omega) (by omega)
theorem se_clear1 (he : ai_env X B) {h : fx_H} (hI : ai_inv ai_T0 h) (hP : mo_P h) (g1 : gv h 274470 = 1) : rx_met l X Y B 24 13 [fr 67] h (fun v h' => v = none ∧ ai_inv ai_T0 h' ∧ mo_PQ h' ∧ 1 ≤ gv h' 286721 ∧ gv h' 294913 = 0 ∧ ai_fr ([274471], [70, 71, 72, 73, 74, 75, 76, 77, 78, 86, 87, 88]) h h') := by
  obtain ⟨t1, t2, t3, t4, t5, t6, t7, t8⟩ := se_top0 hI
  have key : ∀ (v : Option fx_V) (h1 : fx_H), v = none → ai_inv ai_T0 h1 → ai_fr ([274471], [70, 71, 72, 73, 74, 75, 76, 77, 78, 86, 87, 88]) h h1 → gv h1 274471 = 560 → gv h1 352258 = 0 → gv h1 352259 = 0 → gv h1 352256 = gv h 352256 → gv h1 352257 = gv h 352257 → 1 ≤ gv h1 286721 → gv h1 294913 = 0 → (v = none ∧ ai_inv ai_T0 h1 ∧ mo_PQ h1 ∧ 1 ≤ gv h1 286721 ∧ gv h1 294913 = 0 ∧ ai_fr ([274471], [70, 71, 72, 73, 74, 75, 76, 77, 78, 86, 87, 88]) h h1) := by
    intro v h1 rv q3 q4 a1 a2 a3 a4 a5 a6 a7
    refine ⟨rv, q3, ⟨fun b s hb hs => ?_, fun b hb hq => ?_⟩, a6, a7, q4⟩
    · by_cases e : b = 1
      · subst e
        intro q
        have : s = 0 ∨ s = 1 := by omega
        rcases this with rfl | rfl
        · exact absurd (q.symm.trans a2) (by decide)
        · exact absurd (q.symm.trans a3) (by decide)
      · have e : b = 0 := by omega
        subst e
        have fl : gv h1 (86 * 4096 + (2 * 0 + s)) = gv h (86 * 4096 + (2 * 0 + s)) := by
          have : s = 0 ∨ s = 1 := by omega
          rcases this with rfl | rfl
          · exact a4
          · exact a5
        have un : ∀ c, c ∈ [84, 85, 91] → ∀ i, i < 4096 → gv h1 (c * 4096 + i) = gv h (c * 4096 + i) := fun c hc i hi => by
          have hc : c = 84 ∨ c = 85 ∨ c = 91 := by simpa using hc
          refine gv_fr (q4 _ (mo_mem_no (fun y hy e => ?_)) (mo_mem_no (fun y hy e => ?_)))
          · have hy : y = 274471 := by simpa using hy
            omega
          · have hy : y = 70 ∨ y = 71 ∨ y = 72 ∨ y = 73 ∨ y = 74 ∨ y = 75 ∨ y = 76 ∨ y = 77 ∨ y = 78 ∨ y = 86 ∨ y = 87 ∨ y = 88 := by simpa using hy
            rw [ai_p1 hi] at e
            omega
        have hs0 := hP 0 s (by decide) hs
        unfold mo_seg at hs0 ⊢
        rw [fl, un 84 (by decide) _ (by omega), un 85 (by decide) _ (by omega)]
        intro q
        obtain ⟨z1, z2, z3, z4⟩ := hs0 q
        exact ⟨z1, z2, z3, mo_wf_ext (fun i h5 h6 => un 91 (by decide) i (by omega)) z4⟩
    · have g5 : gv h1 274470 = gv h 274470 := gv_fr (q4 _ rfl rfl)
      have e : b = 1 := by omega
      subst e
      refine ⟨by omega, by omega, fun s hs q => ?_⟩
      have : s = 0 ∨ s = 1 := by omega
      rcases this with rfl | rfl
      · exact absurd (q.symm.trans a2) (by decide)
      · exact absurd (q.symm.trans a3) (by decide)
  have hx : gv h 352256 = 0 ∨ gv h 352256 = 1 := by omega
  have hy : gv h 352257 = 0 ∨ gv h 352257 = 1 := by omega
  rcases hx with hx | hx <;> rcases hy with hy | hy
  · refine rx_met_mono (rx_met_deep (by decide : 0 ≤ 13) (ic_m_clearBank_r1_r1_00 he [fr 67] h ⟨rfl, trivial⟩ (fun q hq => ?_) hI trivial)) (fun v h1 q => ?_)
    · have hq : q ∈ [((274470, .inl (2147483649, 2147483649)) : Nat × ai_S), ((352256, .inl (2147483648, 2147483648)) : Nat × ai_S), ((352257, .inl (2147483648, 2147483648)) : Nat × ai_S)] := hq
      rcases List.mem_cons.mp hq with rfl | hq
      · exact mo_iv 1 1 hI rfl (by omega) (by omega) (by decide)
      rcases List.mem_cons.mp hq with rfl | hq
      · exact mo_iv 0 0 hI rfl (by omega) (by omega) (by decide)
      rcases List.mem_cons.mp hq with rfl | hq
      · exact mo_iv 0 0 hI rfl (by omega) (by omega) (by decide)
      cases hq
    · obtain ⟨q1, q2, q3, q4, -⟩ := q
      cases v with
      | some v => exact False.elim q1
      | none =>
        have p0 := at_num (p := 274471) (lo := 560) (hi := 560) (q2 _ (List.mem_of_getElem? (i := 0) rfl)) (by decide)
        have p1 := at_num (p := 352258) (lo := 0) (hi := 0) (q2 _ (List.mem_of_getElem? (i := 8) rfl)) (by decide)
        have p2 := at_num (p := 352259) (lo := 0) (hi := 0) (q2 _ (List.mem_of_getElem? (i := 9) rfl)) (by decide)
        have p3 := at_num (p := 352256) (lo := 0) (hi := 0) (q2 _ (List.mem_of_getElem? (i := 6) rfl)) (by decide)
        have p4 := at_num (p := 352257) (lo := 0) (hi := 0) (q2 _ (List.mem_of_getElem? (i := 7) rfl)) (by decide)
        have p5 := at_num (p := 286721) (lo := 4) (hi := 4) (q2 _ (List.mem_of_getElem? (i := 1) rfl)) (by decide)
        have p6 := at_num (p := 294913) (lo := 0) (hi := 0) (q2 _ (List.mem_of_getElem? (i := 2) rfl)) (by decide)
        exact key none h1 rfl q3 q4 (by omega) (by omega) (by omega) (by omega) (by omega) (by omega) (by omega)
  · refine rx_met_mono (rx_met_deep (by decide : 0 ≤ 13) (ic_m_clearBank_r1_r1_01 he [fr 67] h ⟨rfl, trivial⟩ (fun q hq => ?_) hI trivial)) (fun v h1 q => ?_)
    · have hq : q ∈ [((274470, .inl (2147483649, 2147483649)) : Nat × ai_S), ((352256, .inl (2147483648, 2147483648)) : Nat × ai_S), ((352257, .inl (2147483649, 2147483649)) : Nat × ai_S)] := hq
      rcases List.mem_cons.mp hq with rfl | hq
      · exact mo_iv 1 1 hI rfl (by omega) (by omega) (by decide)
      rcases List.mem_cons.mp hq with rfl | hq
      · exact mo_iv 0 0 hI rfl (by omega) (by omega) (by decide)
      rcases List.mem_cons.mp hq with rfl | hq
      · exact mo_iv 1 1 hI rfl (by omega) (by omega) (by decide)
      cases hq
    · obtain ⟨q1, q2, q3, q4, -⟩ := q
      cases v with
      | some v => exact False.elim q1
      | none =>
        have p0 := at_num (p := 274471) (lo := 560) (hi := 560) (q2 _ (List.mem_of_getElem? (i := 0) rfl)) (by decide)
        have p1 := at_num (p := 352258) (lo := 0) (hi := 0) (q2 _ (List.mem_of_getElem? (i := 8) rfl)) (by decide)
        have p2 := at_num (p := 352259) (lo := 0) (hi := 0) (q2 _ (List.mem_of_getElem? (i := 9) rfl)) (by decide)
        have p3 := at_num (p := 352256) (lo := 0) (hi := 0) (q2 _ (List.mem_of_getElem? (i := 6) rfl)) (by decide)
        have p4 := at_num (p := 352257) (lo := 1) (hi := 1) (q2 _ (List.mem_of_getElem? (i := 7) rfl)) (by decide)
        have p5 := at_num (p := 286721) (lo := 4) (hi := 4) (q2 _ (List.mem_of_getElem? (i := 1) rfl)) (by decide)
        have p6 := at_num (p := 294913) (lo := 0) (hi := 0) (q2 _ (List.mem_of_getElem? (i := 2) rfl)) (by decide)
        exact key none h1 rfl q3 q4 (by omega) (by omega) (by omega) (by omega) (by omega) (by omega) (by omega)
  · refine rx_met_mono (rx_met_deep (by decide : 0 ≤ 13) (ic_m_clearBank_r1_r1_10 he [fr 67] h ⟨rfl, trivial⟩ (fun q hq => ?_) hI trivial)) (fun v h1 q => ?_)
    · have hq : q ∈ [((274470, .inl (2147483649, 2147483649)) : Nat × ai_S), ((352256, .inl (2147483649, 2147483649)) : Nat × ai_S), ((352257, .inl (2147483648, 2147483648)) : Nat × ai_S)] := hq
      rcases List.mem_cons.mp hq with rfl | hq
      · exact mo_iv 1 1 hI rfl (by omega) (by omega) (by decide)
      rcases List.mem_cons.mp hq with rfl | hq
      · exact mo_iv 1 1 hI rfl (by omega) (by omega) (by decide)
      rcases List.mem_cons.mp hq with rfl | hq
      · exact mo_iv 0 0 hI rfl (by omega) (by omega) (by decide)
      cases hq
    · obtain ⟨q1, q2, q3, q4, -⟩ := q
      cases v with
      | some v => exact False.elim q1
      | none =>
        have p0 := at_num (p := 274471) (lo := 560) (hi := 560) (q2 _ (List.mem_of_getElem? (i := 0) rfl)) (by decide)
        have p1 := at_num (p := 352258) (lo := 0) (hi := 0) (q2 _ (List.mem_of_getElem? (i := 8) rfl)) (by decide)
        have p2 := at_num (p := 352259) (lo := 0) (hi := 0) (q2 _ (List.mem_of_getElem? (i := 9) rfl)) (by decide)
        have p3 := at_num (p := 352256) (lo := 1) (hi := 1) (q2 _ (List.mem_of_getElem? (i := 6) rfl)) (by decide)
        have p4 := at_num (p := 352257) (lo := 0) (hi := 0) (q2 _ (List.mem_of_getElem? (i := 7) rfl)) (by decide)
        have p5 := at_num (p := 286721) (lo := 4) (hi := 4) (q2 _ (List.mem_of_getElem? (i := 1) rfl)) (by decide)
        have p6 := at_num (p := 294913) (lo := 0) (hi := 0) (q2 _ (List.mem_of_getElem? (i := 2) rfl)) (by decide)
        exact key none h1 rfl q3 q4 (by omega) (by omega) (by omega) (by omega) (by omega) (by omega) (by omega)
  · refine rx_met_mono (rx_met_deep (by decide : 0 ≤ 13) (ic_m_clearBank_r1_r1_11 he [fr 67] h ⟨rfl, trivial⟩ (fun q hq => ?_) hI trivial)) (fun v h1 q => ?_)
    · have hq : q ∈ [((274470, .inl (2147483649, 2147483649)) : Nat × ai_S), ((352256, .inl (2147483649, 2147483649)) : Nat × ai_S), ((352257, .inl (2147483649, 2147483649)) : Nat × ai_S)] := hq
      rcases List.mem_cons.mp hq with rfl | hq
      · exact mo_iv 1 1 hI rfl (by omega) (by omega) (by decide)
      rcases List.mem_cons.mp hq with rfl | hq
      · exact mo_iv 1 1 hI rfl (by omega) (by omega) (by decide)
      rcases List.mem_cons.mp hq with rfl | hq
      · exact mo_iv 1 1 hI rfl (by omega) (by omega) (by decide)
      cases hq
    · obtain ⟨q1, q2, q3, q4, -⟩ := q
      cases v with
      | some v => exact False.elim q1
      | none =>
        have p0 := at_num (p := 274471) (lo := 560) (hi := 560) (q2 _ (List.mem_of_getElem? (i := 0) rfl)) (by decide)
        have p1 := at_num (p := 352258) (lo := 0) (hi := 0) (q2 _ (List.mem_of_getElem? (i := 8) rfl)) (by decide)
        have p2 := at_num (p := 352259) (lo := 0) (hi := 0) (q2 _ (List.mem_of_getElem? (i := 9) rfl)) (by decide)
        have p3 := at_num (p := 352256) (lo := 1) (hi := 1) (q2 _ (List.mem_of_getElem? (i := 6) rfl)) (by decide)
        have p4 := at_num (p := 352257) (lo := 1) (hi := 1) (q2 _ (List.mem_of_getElem? (i := 7) rfl)) (by decide)
        have p5 := at_num (p := 286721) (lo := 4) (hi := 4) (q2 _ (List.mem_of_getElem? (i := 1) rfl)) (by decide)
        have p6 := at_num (p := 294913) (lo := 0) (hi := 0) (q2 _ (List.mem_of_getElem? (i := 2) rfl)) (by decide)
        exact key none h1 rfl q3 q4 (by omega) (by omega) (by omega) (by omega) (by omega) (by omega) (by omega)
theorem se_read0 (he : ai_env X B) {h0 h : fx_H} (hS : se_I0 h0 h) (hg : gv h 274436 = 0) : rx_met l X Y B 125 13 [fr 67] h (se_P0 h0 h) := by
  have hI := hS.1
  obtain ⟨t1, t2, t3, t4, t5, t6, t7, t8⟩ := se_top0 hI
  have h16 : se_s0 h ≤ 16 := by
    unfold se_s0
    omega
  have tk := (gv_nat (p := 274440) (lo := 0) (hi := 5) hI rfl (by decide)).2.2
  by_cases k1 : gv h 274440 ≤ 2
  · exact rs_m_readLine_r0_r0_low he hS hg h16 (Nat.zero_le _) k1
  by_cases k2 : 4 ≤ gv h 274440
  · exact rs_m_readLine_r0_r0_high he hS hg h16 k2 tk
  have y1 : 3 ≤ gv h 274440 := by omega
  have y2 : gv h 274440 ≤ 3 := by omega
  obtain ⟨nm, hn⟩ := gv_long (p := 274442) hI rfl rfl
  by_cases w_hall : Int64.ofNat nm = Int64.ofNat 1751215212
  · by_cases z : gv h 294912 = 0
    · exact rs_m_readLine_r0_r0_hall0 he hS hg h16 y1 y2 hn (ai_lo_c w_hall) z
    · exact rs_m_readLine_r0_r0_hall1 he hS hg h16 y1 y2 hn (ai_lo_c w_hall) (by omega)
  by_cases w_district : Int64.ofNat nm = Int64.ofNat 7235441220320322420
  · have z : gv h 299008 = 0 ∨ gv h 299008 = 1 ∨ gv h 299008 = 2 ∨ gv h 299008 = 3 ∨ gv h 299008 = 4 := by omega
    rcases z with z | z | z | z | z
    · exact rs_m_readLine_r0_r0_district0 he hS hg h16 y1 y2 hn (ai_lo_c w_district) z
    · exact rs_m_readLine_r0_r0_district1 he hS hg h16 y1 y2 hn (ai_lo_c w_district) z
    · exact rs_m_readLine_r0_r0_district2 he hS hg h16 y1 y2 hn (ai_lo_c w_district) z
    · exact rs_m_readLine_r0_r0_district3 he hS hg h16 y1 y2 hn (ai_lo_c w_district) z
    · exact rs_m_readLine_r0_r0_district4 he hS hg h16 y1 y2 hn (ai_lo_c w_district) z
  by_cases w_member : Int64.ofNat nm = Int64.ofNat 120282394289522
  · have z : gv h 303104 = 0 ∨ gv h 303104 = 1 ∨ gv h 303104 = 2 ∨ gv h 303104 = 3 ∨ gv h 303104 = 4 ∨ gv h 303104 = 5 ∨ gv h 303104 = 6 ∨ gv h 303104 = 7 := by omega
    rcases z with z | z | z | z | z | z | z | z
    · exact rs_m_readLine_r0_r0_member0 he hS hg h16 y1 y2 hn (ai_lo_c w_member) z
    · exact rs_m_readLine_r0_r0_member1 he hS hg h16 y1 y2 hn (ai_lo_c w_member) z
    · exact rs_m_readLine_r0_r0_member2 he hS hg h16 y1 y2 hn (ai_lo_c w_member) z
    · exact rs_m_readLine_r0_r0_member3 he hS hg h16 y1 y2 hn (ai_lo_c w_member) z
    · exact rs_m_readLine_r0_r0_member4 he hS hg h16 y1 y2 hn (ai_lo_c w_member) z
    · exact rs_m_readLine_r0_r0_member5 he hS hg h16 y1 y2 hn (ai_lo_c w_member) z
    · exact rs_m_readLine_r0_r0_member6 he hS hg h16 y1 y2 hn (ai_lo_c w_member) z
    · exact rs_m_readLine_r0_r0_member7 he hS hg h16 y1 y2 hn (ai_lo_c w_member) z
  by_cases w_look : Int64.ofNat nm = Int64.ofNat 1819242347
  · by_cases z : gv h 352256 = 1
    · exact rs_m_readLine_r0_r0_look1 he hS hg h16 y1 y2 hn (ai_lo_c w_look) z
    · by_cases z2 : gv h 352257 = 1
      · exact rs_m_readLine_r0_r0_look01 he hS hg h16 y1 y2 hn (ai_lo_c w_look) (by omega) z2
      · exact rs_m_readLine_r0_r0_look00 he hS hg h16 y1 y2 hn (ai_lo_c w_look) (by omega) (by omega)
  by_cases w_light : Int64.ofNat nm = Int64.ofNat 465624852596
  · by_cases z : gv h 352257 = 1
    · exact rs_m_readLine_r0_r0_light1 he hS hg h16 y1 y2 hn (ai_lo_c w_light) z
    · by_cases z2 : gv h 352256 = 1
      · exact rs_m_readLine_r0_r0_light01 he hS hg h16 y1 y2 hn (ai_lo_c w_light) z2 (by omega)
      · exact rs_m_readLine_r0_r0_light00 he hS hg h16 y1 y2 hn (ai_lo_c w_light) (by omega) (by omega)
  by_cases w_tooth : Int64.ofNat nm = Int64.ofNat 500085781608
  · have z : gv h 356352 = 0 ∨ gv h 356352 = 1 := by omega
    rcases z with z | z
    · exact rs_m_readLine_r0_r0_tooth0 he hS hg h16 y1 y2 hn (ai_lo_c w_tooth) z
    · exact rs_m_readLine_r0_r0_tooth1 he hS hg h16 y1 y2 hn (ai_lo_c w_tooth) z
  by_cases w_draw : Int64.ofNat nm = Int64.ofNat 1685217655
  · have z : gv h 360448 = 0 ∨ gv h 360448 = 1 := by omega
    rcases z with z | z
    · exact rs_m_readLine_r0_r0_draw0 he hS hg h16 y1 y2 hn (ai_lo_c w_draw) z
    · exact rs_m_readLine_r0_r0_draw1 he hS hg h16 y1 y2 hn (ai_lo_c w_draw) z
  refine rs_m_readLine_r0_r0_other he hS hg h16 y1 y2 hn (fun c hc => ?_)
  have hc : c = 1751215212 ∨ c = 7235441220320322420 ∨ c = 120282394289522 ∨ c = 1819242347 ∨ c = 465624852596 ∨ c = 500085781608 ∨ c = 1685217655 := by simpa [ai_WL] using hc
  rcases hc with rfl | rfl | rfl | rfl | rfl | rfl | rfl
  · exact w_hall
  · exact w_district
  · exact w_member
  · exact w_look
  · exact w_light
  · exact w_tooth
  · exact w_draw
theorem se_loop0 (he : ai_env X B) {h0 : fx_H} (kk : ∀ h', se_I0 h0 h' → ru l X Y B 14 fm_32.1 95 [(0, fr 67)] [] h' K) : ∀ n h, se_I0 h0 h → (gv h 274436 = 0 → 17 ≤ n + se_s0 h) → ru l X Y B 14 fm_32.1 74 [(0, fr 67)] [] h K := by
  have hu := hu_32
  intro n
  induction n with
  | zero =>
    intro h hS hn
    have hI := hS.1
    refine w_ld he hu rfl rfl rfl rfl rfl ?_
    refine w_callM he hu hI rfl rfl rfl rfl (gd_met he hI) (fun v h1 q => ?_)
    obtain ⟨rfl, q⟩ := q
    rcases q with ⟨rfl, q⟩ | ⟨rfl, q⟩
    · have := hn q
      obtain ⟨t1, t2, t3, t4, t5, t6, t7, t8⟩ := se_top0 hI
      unfold se_s0 at this
      omega
    · refine w_cmp0 he hu rfl rfl rfl (ru_ne rfl) (fun c1 => kk _ hS) (fun c1 => ?_)
      rw [rc_eq0 (by decide)] at c1
      cases c1
  | succ n ih =>
    intro h hS hn
    have hI := hS.1
    refine w_ld he hu rfl rfl rfl rfl rfl ?_
    refine w_callM he hu hI rfl rfl rfl rfl (gd_met he hI) (fun v h1 q => ?_)
    obtain ⟨rfl, q⟩ := q
    rcases q with ⟨rfl, q⟩ | ⟨rfl, q⟩
    · refine w_cmp0 he hu rfl rfl rfl (ru_ne rfl) (fun c1 => kk _ hS) (fun c1 => ?_)
      refine w_ld he hu rfl rfl rfl rfl rfl ?_
      refine w_gi 274440 he hu hI rfl rfl rfl rfl ?_
      refine w_cmp0 he hu rfl rfl rfl (ru_ne rfl) (fun c2 => kk _ hS) (fun c2 => ?_)
      refine w_ld he hu rfl rfl rfl rfl rfl ?_
      refine w_callM he hu hI rfl rfl rfl rfl (se_read0 he hS q) (fun v h2 q2 => ?_)
      obtain ⟨rfl, q3, q4⟩ := q2
      refine w_go he hu rfl (ru_ne rfl) ?_
      refine ih h2 q3 (fun z => ?_)
      have := hn q
      rcases q4 with q4 | q4
      · exact absurd z q4
      · omega
    · refine w_cmp0 he hu rfl rfl rfl (ru_ne rfl) (fun c1 => kk _ hS) (fun c1 => ?_)
      rw [rc_eq0 (by decide)] at c1
      cases c1
theorem se_read1 (he : ai_env X B) {h0 h : fx_H} (hS : se_I1 h0 h) (hg : gv h 274436 = 0) : rx_met l X Y B 125 13 [fr 67] h (se_P1 h0 h) := by
  have hI := hS.1
  obtain ⟨t1, t2, t3, t4, t5, t6, t7, t8⟩ := se_top1 hI
  have h16 : se_s1 h ≤ 16 := by
    unfold se_s1
    omega
  have tk := (gv_nat (p := 274440) (lo := 0) (hi := 5) hI rfl (by decide)).2.2
  by_cases k1 : gv h 274440 ≤ 2
  · exact rs_m_readLine_r1_r1_low he hS hg h16 (Nat.zero_le _) k1
  by_cases k2 : 4 ≤ gv h 274440
  · exact rs_m_readLine_r1_r1_high he hS hg h16 k2 tk
  have y1 : 3 ≤ gv h 274440 := by omega
  have y2 : gv h 274440 ≤ 3 := by omega
  obtain ⟨nm, hn⟩ := gv_long (p := 274442) hI rfl rfl
  by_cases w_hall : Int64.ofNat nm = Int64.ofNat 1751215212
  · by_cases z : gv h 294913 = 0
    · exact rs_m_readLine_r1_r1_hall0 he hS hg h16 y1 y2 hn (ai_lo_c w_hall) z
    · exact rs_m_readLine_r1_r1_hall1 he hS hg h16 y1 y2 hn (ai_lo_c w_hall) (by omega)
  by_cases w_district : Int64.ofNat nm = Int64.ofNat 7235441220320322420
  · have z : gv h 299009 = 0 ∨ gv h 299009 = 1 ∨ gv h 299009 = 2 ∨ gv h 299009 = 3 ∨ gv h 299009 = 4 := by omega
    rcases z with z | z | z | z | z
    · exact rs_m_readLine_r1_r1_district0 he hS hg h16 y1 y2 hn (ai_lo_c w_district) z
    · exact rs_m_readLine_r1_r1_district1 he hS hg h16 y1 y2 hn (ai_lo_c w_district) z
    · exact rs_m_readLine_r1_r1_district2 he hS hg h16 y1 y2 hn (ai_lo_c w_district) z
    · exact rs_m_readLine_r1_r1_district3 he hS hg h16 y1 y2 hn (ai_lo_c w_district) z
    · exact rs_m_readLine_r1_r1_district4 he hS hg h16 y1 y2 hn (ai_lo_c w_district) z
  by_cases w_member : Int64.ofNat nm = Int64.ofNat 120282394289522
  · have z : gv h 303105 = 0 ∨ gv h 303105 = 1 ∨ gv h 303105 = 2 ∨ gv h 303105 = 3 ∨ gv h 303105 = 4 ∨ gv h 303105 = 5 ∨ gv h 303105 = 6 ∨ gv h 303105 = 7 := by omega
    rcases z with z | z | z | z | z | z | z | z
    · exact rs_m_readLine_r1_r1_member0 he hS hg h16 y1 y2 hn (ai_lo_c w_member) z
    · exact rs_m_readLine_r1_r1_member1 he hS hg h16 y1 y2 hn (ai_lo_c w_member) z
    · exact rs_m_readLine_r1_r1_member2 he hS hg h16 y1 y2 hn (ai_lo_c w_member) z
    · exact rs_m_readLine_r1_r1_member3 he hS hg h16 y1 y2 hn (ai_lo_c w_member) z
    · exact rs_m_readLine_r1_r1_member4 he hS hg h16 y1 y2 hn (ai_lo_c w_member) z
    · exact rs_m_readLine_r1_r1_member5 he hS hg h16 y1 y2 hn (ai_lo_c w_member) z
    · exact rs_m_readLine_r1_r1_member6 he hS hg h16 y1 y2 hn (ai_lo_c w_member) z
    · exact rs_m_readLine_r1_r1_member7 he hS hg h16 y1 y2 hn (ai_lo_c w_member) z
  by_cases w_look : Int64.ofNat nm = Int64.ofNat 1819242347
  · by_cases z : gv h 352258 = 1
    · exact rs_m_readLine_r1_r1_look1 he hS hg h16 y1 y2 hn (ai_lo_c w_look) z
    · by_cases z2 : gv h 352259 = 1
      · exact rs_m_readLine_r1_r1_look01 he hS hg h16 y1 y2 hn (ai_lo_c w_look) (by omega) z2
      · exact rs_m_readLine_r1_r1_look00 he hS hg h16 y1 y2 hn (ai_lo_c w_look) (by omega) (by omega)
  by_cases w_light : Int64.ofNat nm = Int64.ofNat 465624852596
  · by_cases z : gv h 352259 = 1
    · exact rs_m_readLine_r1_r1_light1 he hS hg h16 y1 y2 hn (ai_lo_c w_light) z
    · by_cases z2 : gv h 352258 = 1
      · exact rs_m_readLine_r1_r1_light01 he hS hg h16 y1 y2 hn (ai_lo_c w_light) z2 (by omega)
      · exact rs_m_readLine_r1_r1_light00 he hS hg h16 y1 y2 hn (ai_lo_c w_light) (by omega) (by omega)
  by_cases w_tooth : Int64.ofNat nm = Int64.ofNat 500085781608
  · have z : gv h 356353 = 0 ∨ gv h 356353 = 1 := by omega
    rcases z with z | z
    · exact rs_m_readLine_r1_r1_tooth0 he hS hg h16 y1 y2 hn (ai_lo_c w_tooth) z
    · exact rs_m_readLine_r1_r1_tooth1 he hS hg h16 y1 y2 hn (ai_lo_c w_tooth) z
  by_cases w_draw : Int64.ofNat nm = Int64.ofNat 1685217655
  · have z : gv h 360449 = 0 ∨ gv h 360449 = 1 := by omega
    rcases z with z | z
    · exact rs_m_readLine_r1_r1_draw0 he hS hg h16 y1 y2 hn (ai_lo_c w_draw) z
    · exact rs_m_readLine_r1_r1_draw1 he hS hg h16 y1 y2 hn (ai_lo_c w_draw) z
  refine rs_m_readLine_r1_r1_other he hS hg h16 y1 y2 hn (fun c hc => ?_)
  have hc : c = 1751215212 ∨ c = 7235441220320322420 ∨ c = 120282394289522 ∨ c = 1819242347 ∨ c = 465624852596 ∨ c = 500085781608 ∨ c = 1685217655 := by simpa [ai_WL] using hc
  rcases hc with rfl | rfl | rfl | rfl | rfl | rfl | rfl
  · exact w_hall
  · exact w_district
  · exact w_member
  · exact w_look
  · exact w_light
  · exact w_tooth
  · exact w_draw
theorem se_loop1 (he : ai_env X B) {h0 : fx_H} (kk : ∀ h', se_I1 h0 h' → ru l X Y B 14 fm_32.1 95 [(0, fr 67)] [] h' K) : ∀ n h, se_I1 h0 h → (gv h 274436 = 0 → 17 ≤ n + se_s1 h) → ru l X Y B 14 fm_32.1 74 [(0, fr 67)] [] h K := by
  have hu := hu_32
  intro n
  induction n with
  | zero =>
    intro h hS hn
    have hI := hS.1
    refine w_ld he hu rfl rfl rfl rfl rfl ?_
    refine w_callM he hu hI rfl rfl rfl rfl (gd_met he hI) (fun v h1 q => ?_)
    obtain ⟨rfl, q⟩ := q
    rcases q with ⟨rfl, q⟩ | ⟨rfl, q⟩
    · have := hn q
      obtain ⟨t1, t2, t3, t4, t5, t6, t7, t8⟩ := se_top1 hI
      unfold se_s1 at this
      omega
    · refine w_cmp0 he hu rfl rfl rfl (ru_ne rfl) (fun c1 => kk _ hS) (fun c1 => ?_)
      rw [rc_eq0 (by decide)] at c1
      cases c1
  | succ n ih =>
    intro h hS hn
    have hI := hS.1
    refine w_ld he hu rfl rfl rfl rfl rfl ?_
    refine w_callM he hu hI rfl rfl rfl rfl (gd_met he hI) (fun v h1 q => ?_)
    obtain ⟨rfl, q⟩ := q
    rcases q with ⟨rfl, q⟩ | ⟨rfl, q⟩
    · refine w_cmp0 he hu rfl rfl rfl (ru_ne rfl) (fun c1 => kk _ hS) (fun c1 => ?_)
      refine w_ld he hu rfl rfl rfl rfl rfl ?_
      refine w_gi 274440 he hu hI rfl rfl rfl rfl ?_
      refine w_cmp0 he hu rfl rfl rfl (ru_ne rfl) (fun c2 => kk _ hS) (fun c2 => ?_)
      refine w_ld he hu rfl rfl rfl rfl rfl ?_
      refine w_callM he hu hI rfl rfl rfl rfl (se_read1 he hS q) (fun v h2 q2 => ?_)
      obtain ⟨rfl, q3, q4⟩ := q2
      refine w_go he hu rfl (ru_ne rfl) ?_
      refine ih h2 q3 (fun z => ?_)
      have := hn q
      rcases q4 with q4 | q4
      · exact absurd z q4
      · omega
    · refine w_cmp0 he hu rfl rfl rfl (ru_ne rfl) (fun c1 => kk _ hS) (fun c1 => ?_)
      rw [rc_eq0 (by decide)] at c1
      cases c1
end SE
