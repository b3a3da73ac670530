/-- acts kept and acts undone are at most forty -/
def mo_A (h : fx_H) : Prop := gv h 274485 + gv h 274486 ≤ 40
def mo_PA (h : fx_H) : Prop := mo_P h ∧ mo_A h
def la_J (h : fx_H) : Prop := mo_I h ∧ gv h 12 = gv h 274502 ∧ gv h 12 ≤ 100000
def la_KK : rx_K := fun v h' => (∃ x, v = some (fc x)) ∧ la_J h'
noncomputable def ju_no (m : ai_M) (L : List Nat) : Bool := L.all (fun p => !(ai_mem m.1 p) && !(ai_mem m.2 (p / 4096)))
noncomputable def ju_ok (m : ai_M) : Bool := mo_ok m && ju_no m [12, 274502, 274469, 286721]
theorem ju_no_ok {m : ai_M} {L : List Nat} (hm : ju_no m L = true) {h h' : fx_H} (hf : ai_fr m h h') : ∀ p ∈ L, gv h' p = gv h p := fun p hp => by
  have h1 := List.all_eq_true.mp hm p hp
  obtain ⟨h2, h3⟩ := fx_and h1
  refine gv_fr (hf p ?_ ?_)
  · cases hc : ai_mem m.1 p with
    | false => rfl
    | true => rw [hc] at h2; cases h2
  · cases hc : ai_mem m.2 (p / 4096) with
    | false => rfl
    | true => rw [hc] at h3; cases h3
theorem mo_A_fr {m : ai_M} (hm : ju_no m [274485, 274486] = true) : ∀ h h', mo_A h → ai_fr m h h' → mo_A h' := fun h h' ha hf => by
  have e := ju_no_ok hm hf
  have e1 := e 274485 (by decide)
  have e2 := e 274486 (by decide)
  unfold mo_A at ha ⊢
  omega
theorem mo_PA_fr {m : ai_M} (h1 : mo_ok m = true) (h2 : ju_no m [274485, 274486] = true) : ∀ h h', mo_PA h → ai_fr m h h' → mo_PA h' := fun h h' hp hf => ⟨mo_P_fr h1 h h' hp.1 hf, mo_A_fr h2 h h' hp.2 hf⟩
theorem la_J_of {m : ai_M} (hm : ju_ok m = true) {h h' : fx_H} (hJ : la_J h) (hI : ai_inv ai_T0 h') (hf : ai_fr m h h') (hA : mo_A h') : la_J h' := by
  obtain ⟨m1, m2⟩ := fx_and hm
  obtain ⟨⟨j1, j2, j3, j4⟩, j5, j6⟩ := hJ
  have e := ju_no_ok m2 hf
  have e1 := e 12 (by decide)
  have e2 := e 274502 (by decide)
  have e3 := e 274469 (by decide)
  have e4 := e 286721 (by decide)
  exact ⟨⟨hI, mo_P_fr m1 h h' j2 hf, fun q => by have := j3 (by omega); omega, hA⟩, by omega, by omega⟩
theorem ai_res_num {a : Nat × Nat} {v : Option fx_V} (h : ai_res (some (.inl a)) v) : ∃ x, v = some (fc x) := by
  cases v with
  | none => exact False.elim h
  | some w =>
    obtain ⟨lo, hi⟩ := a
    obtain ⟨n, e, -⟩ : ai_iv lo hi w := h
    exact ⟨n, by rw [e]⟩
theorem iv_all {x : Nat} (hx : x < 4294967296) : ai_sp (.inl (0, 4294967295)) (fc x) := ⟨x, rfl, hx, Nat.zero_le _, Nat.le_of_lt_succ (rx_b_lt x)⟩
theorem iv_bool {x : Nat} (hx : x < 2) : ai_sp (.inl (2147483648, 2147483649)) (fc x) := by
  have e := rb_small (x := x) (by omega)
  exact ⟨x, rfl, by omega, by omega, by omega⟩
section PU
variable {l : Launch} {X : fx_X} {Y : fx_Y} {B : fx_B}
theorem ai_lift2 {c : Nat} {I : ai_I} (hc : ai_con l X Y B ai_T0 mo_P c I) (hm : ju_no I.2.2.1 [274485, 274486] = true) : ai_con l X Y B ai_T0 mo_PA c I := by
  intro ws h0 h1 h2 h3 h4
  exact rx_met_mono (hc ws h0 h1 h2 h3 h4.1) (fun v h' q => ⟨q.1, q.2.1, q.2.2.1, q.2.2.2.1, q.2.2.2.2, mo_A_fr hm _ _ h4.2 q.2.2.2.1⟩)
theorem ka_PA (he : ai_env X B) : ai_con l X Y B ai_T0 mo_PA 151 ii_h_keepAct := by
  intro ws h0 h1 h2 h3 h4
  refine rx_met_mono (ic_h_keepAct he ws h0 h1 h2 h3 h4.1) (fun v h' q => ⟨q.1, q.2.1, q.2.2.1, q.2.2.2.1, q.2.2.2.2, ?_⟩)
  have p0 := at_num (p := 274485) (lo := 1) (hi := 40) (q.2.1 _ (List.mem_of_getElem? (i := 0) rfl)) (by decide)
  have p1 := at_num (p := 274486) (lo := 0) (hi := 0) (q.2.1 _ (List.mem_of_getElem? (i := 1) rfl)) (by decide)
  unfold mo_A
  omega
theorem pu_x {P : fx_H → Prop} {c d : Nat} {I : ai_I} {a : Nat × Nat} (hc : ai_con l X Y B ai_T0 P c I) (hm : ju_ok I.2.2.1 = true) (hm2 : ju_no I.2.2.1 [274485, 274486] = true) (hr : I.2.1.1 = some (.inl a)) (hd : I.2.2.2 ≤ d) {ws : List fx_V} {h : fx_H} (hw : ai_as I.1.1 ws) (hf : ∀ q ∈ I.1.2, ai_at h q) (hJ : la_J h) (hP : P h) : rx_met l X Y B c d ws h la_KK :=
  rx_met_mono (rx_met_deep hd (hc ws h hw hf hJ.1.1 hP)) (fun v h' q => ⟨ai_res_num (by have := q.1; rw [hr] at this; exact this), la_J_of hm hJ q.2.2.1 q.2.2.2.1 (mo_A_fr hm2 _ _ hJ.1.2.2.2 q.2.2.2.1)⟩)
theorem pu_a {c d : Nat} {I : ai_I} {a : Nat × Nat} (hc : ai_con l X Y B ai_T0 mo_PA c I) (hm : ju_ok I.2.2.1 = true) (hr : I.2.1.1 = some (.inl a)) (hd : I.2.2.2 ≤ d) {ws : List fx_V} {h : fx_H} (hw : ai_as I.1.1 ws) (hf : ∀ q ∈ I.1.2, ai_at h q) (hJ : la_J h) : rx_met l X Y B c d ws h la_KK :=
  rx_met_mono (rx_met_deep hd (hc ws h hw hf hJ.1.1 ⟨hJ.1.2.1, hJ.1.2.2.2⟩)) (fun v h' q => ⟨ai_res_num (by have := q.1; rw [hr] at this; exact this), la_J_of hm hJ q.2.2.1 q.2.2.2.1 q.2.2.2.2.2⟩)
theorem pf_0 {h : fx_H} (hJ : la_J h) (hb : gv h 274469 = 0) : ∀ q ∈ [((274469, .inl (2147483648, 2147483648)) : Nat × ai_S)], ai_at h q := fun q hq => by
  rcases List.mem_cons.mp hq with rfl | hq
  · exact mo_iv 0 0 hJ.1.1 rfl (by omega) (by omega) (by decide)
  · cases hq
theorem pf_1 {h : fx_H} (hJ : la_J h) (hb : gv h 274469 = 1) : ∀ q ∈ [((274469, .inl (2147483649, 2147483649)) : Nat × ai_S), (286721, .inl (2147483649, 2147483652))], ai_at h q := fun q hq => by
  have h4 := (se_top0 hJ.1.1).2.2.2.2.2.2.1
  have h1 := hJ.1.2.2.1 hb
  rcases List.mem_cons.mp hq with rfl | hq
  · exact mo_iv 1 1 hJ.1.1 rfl (by omega) (by omega) (by decide)
  rcases List.mem_cons.mp hq with rfl | hq
  · exact mo_iv 1 4 hJ.1.1 rfl (by omega) (by omega) (by decide)
  · cases hq
theorem pb_2 {h : fx_H} (hJ : la_J h) : gv h 274469 = 0 ∨ gv h 274469 = 1 := by
  have := (gv_nat (p := 274469) (lo := 0) (hi := 1) hJ.1.1 rfl (by decide)).2.2
  omega
theorem ia_step_0 (he : ai_env X B) : ai_con l X Y B ai_T0 mo_PA 46 ii_m_step_b0_b0 := ai_case he (mo_PA_fr (by decide) (by decide)) ik_m_step_b0_b0 ⟨ka_PA he, ai_lift2 (ic_m_goInEarnest_b0 he) (by decide), trivial⟩
theorem ia_step_1 (he : ai_env X B) : ai_con l X Y B ai_T0 mo_PA 46 ii_m_step_b1_b1 := ai_case he (mo_PA_fr (by decide) (by decide)) ik_m_step_b1_b1 ⟨ka_PA he, ai_lift2 (ic_m_goInEarnest_b1 he) (by decide), trivial⟩
theorem ia_news_0 (he : ai_env X B) : ai_con l X Y B ai_T0 mo_PA 48 ii_m_news_b0_b0 := ai_case he (mo_PA_fr (by decide) (by decide)) ik_m_news_b0_b0 ⟨ka_PA he, trivial⟩
theorem ia_news_1 (he : ai_env X B) : ai_con l X Y B ai_T0 mo_PA 48 ii_m_news_b1_b1 := ai_case he (mo_PA_fr (by decide) (by decide)) ik_m_news_b1_b1 ⟨ka_PA he, trivial⟩
theorem ia_sit_0 (he : ai_env X B) : ai_con l X Y B ai_T0 mo_PA 50 ii_m_sit_b0_b0 := ai_case he (mo_PA_fr (by decide) (by decide)) ik_m_sit_b0_b0 ⟨ai_lift2 (ai_lift (ic_m_whoSits_b0 he) (mo_P_fr (by decide))) (by decide), ka_PA he, trivial⟩
theorem ia_sit_1 (he : ai_env X B) : ai_con l X Y B ai_T0 mo_PA 50 ii_m_sit_b1_b1 := ai_case he (mo_PA_fr (by decide) (by decide)) ik_m_sit_b1_b1 ⟨ai_lift2 (ai_lift (ic_m_whoSits_b1 he) (mo_P_fr (by decide))) (by decide), ka_PA he, trivial⟩
theorem ia_change_0 (he : ai_env X B) : ai_con l X Y B ai_T0 mo_PA 52 ii_m_change_b0_b0 := ai_case he (mo_PA_fr (by decide) (by decide)) ik_m_change_b0_b0 ⟨ka_PA he, trivial⟩
theorem ia_change_1 (he : ai_env X B) : ai_con l X Y B ai_T0 mo_PA 52 ii_m_change_b1_b1 := ai_case he (mo_PA_fr (by decide) (by decide)) ik_m_change_b1_b1 ⟨ka_PA he, trivial⟩
theorem ia_unseat_0 (he : ai_env X B) : ai_con l X Y B ai_T0 mo_PA 54 ii_m_unseat_b0_b0 := ai_case he (mo_PA_fr (by decide) (by decide)) ik_m_unseat_b0_b0 ⟨ka_PA he, trivial⟩
theorem ia_unseat_1 (he : ai_env X B) : ai_con l X Y B ai_T0 mo_PA 54 ii_m_unseat_b1_b1 := ai_case he (mo_PA_fr (by decide) (by decide)) ik_m_unseat_b1_b1 ⟨ka_PA he, trivial⟩
theorem px_feed (he : ai_env X B) {h : fx_H} (hJ : la_J h) {a1 : Nat} (h1 : a1 < 4294967296) {a2 : Nat} (h2 : a2 < 4294967296) {a3 : Nat} (h3 : a3 < 4294967296) {a4 : Nat} (h4 : a4 < 4294967296) {a5 : Nat} (h5 : a5 < 4294967296) : rx_met l X Y B 27 63 [fr 0, fc a1, fc a2, fc a3, fc a4, fc a5] h la_KK := pu_x (ic_x1 he) (by decide) (by decide) rfl (by decide) ⟨rfl, iv_all h1, iv_all h2, iv_all h3, iv_all h4, iv_all h5, trivial⟩ (fun q hq => by have hq : q ∈ ([] : List (Nat × ai_S)) := hq; cases hq) hJ trivial
theorem pm_feed (he : ai_env X B) {h : fx_H} (hJ : la_J h) {a1 : Nat} (h1 : a1 < 4294967296) {a2 : Nat} (h2 : a2 < 4294967296) {a3 : Nat} (h3 : a3 < 4294967296) {a4 : Nat} (h4 : a4 < 4294967296) {a5 : Nat} (h5 : a5 < 4294967296) : rx_met l X Y B 28 63 [fr 67, fc a1, fc a2, fc a3, fc a4, fc a5] h la_KK := by
  rcases pb_2 hJ with hb | hb
  · exact pu_x (ic_m_feed_b0_b0 he) (by decide) (by decide) rfl (by decide) ⟨rfl, iv_all h1, iv_all h2, iv_all h3, iv_all h4, iv_all h5, trivial⟩ (pf_0 hJ hb) hJ trivial
  · exact pu_x (ic_m_feed_b1_b1 he) (by decide) (by decide) rfl (by decide) ⟨rfl, iv_all h1, iv_all h2, iv_all h3, iv_all h4, iv_all h5, trivial⟩ (pf_1 hJ hb) hJ trivial
theorem px_end (he : ai_env X B) {h : fx_H} (hJ : la_J h) {a1 : Nat} (h1 : a1 < 4294967296) : rx_met l X Y B 29 63 [fr 0, fc a1] h la_KK := pu_x (ic_x2 he) (by decide) (by decide) rfl (by decide) ⟨rfl, iv_all h1, trivial⟩ (fun q hq => by have hq : q ∈ ([] : List (Nat × ai_S)) := hq; cases hq) hJ trivial
theorem pm_end (he : ai_env X B) {h : fx_H} (hJ : la_J h) {a1 : Nat} (h1 : a1 < 4294967296) : rx_met l X Y B 30 63 [fr 67, fc a1] h la_KK := by
  rcases pb_2 hJ with hb | hb
  · exact pu_x (ic_m_end_b0_b0 he) (by decide) (by decide) rfl (by decide) ⟨rfl, iv_all h1, trivial⟩ (pf_0 hJ hb) hJ trivial
  · exact pu_x (ic_m_end_b1_b1 he) (by decide) (by decide) rfl (by decide) ⟨rfl, iv_all h1, trivial⟩ (pf_1 hJ hb) hJ trivial
theorem px_senate (he : ai_env X B) {h : fx_H} (hJ : la_J h) : rx_met l X Y B 31 63 [fr 0] h la_KK := pu_x (ic_x303 he) (by decide) (by decide) rfl (by decide) ⟨rfl, trivial⟩ (fun q hq => by have hq : q ∈ ([] : List (Nat × ai_S)) := hq; cases hq) hJ trivial
theorem px_fault (he : ai_env X B) {h : fx_H} (hJ : la_J h) {a1 : Nat} (h1 : a1 < 4294967296) : rx_met l X Y B 33 63 [fr 0, fc a1] h la_KK := pu_x (ic_x304 he) (by decide) (by decide) rfl (by decide) ⟨rfl, iv_all h1, trivial⟩ (fun q hq => by have hq : q ∈ ([] : List (Nat × ai_S)) := hq; cases hq) hJ trivial
theorem pm_fault (he : ai_env X B) {h : fx_H} (hJ : la_J h) {a1 : Nat} (h1 : a1 < 4294967296) : rx_met l X Y B 34 63 [fr 67, fc a1] h la_KK := by
  rcases pb_2 hJ with hb | hb
  · exact pu_x (ic_m_fault_b0_b0 he) (by decide) (by decide) rfl (by decide) ⟨rfl, iv_all h1, trivial⟩ (pf_0 hJ hb) hJ trivial
  · exact pu_x (ic_m_fault_b1_b1 he) (by decide) (by decide) rfl (by decide) ⟨rfl, iv_all h1, trivial⟩ (pf_1 hJ hb) hJ trivial
theorem px_member (he : ai_env X B) {h : fx_H} (hJ : la_J h) {a1 : Nat} (h1 : a1 < 4294967296) {a2 : Nat} (h2 : a2 < 4294967296) : rx_met l X Y B 35 63 [fr 0, fc a1, fc a2] h la_KK := pu_x (ic_x312 he) (by decide) (by decide) rfl (by decide) ⟨rfl, iv_all h1, iv_all h2, trivial⟩ (fun q hq => by have hq : q ∈ ([] : List (Nat × ai_S)) := hq; cases hq) hJ trivial
theorem pm_member (he : ai_env X B) {h : fx_H} (hJ : la_J h) {a1 : Nat} (h1 : a1 < 4294967296) {a2 : Nat} (h2 : a2 < 4294967296) : rx_met l X Y B 36 63 [fr 67, fc a1, fc a2] h la_KK := by
  rcases pb_2 hJ with hb | hb
  · exact pu_x (ic_m_member_b0_b0 he) (by decide) (by decide) rfl (by decide) ⟨rfl, iv_all h1, iv_all h2, trivial⟩ (pf_0 hJ hb) hJ hJ.1.2.1
  · exact pu_x (ic_m_member_b1_b1 he) (by decide) (by decide) rfl (by decide) ⟨rfl, iv_all h1, iv_all h2, trivial⟩ (pf_1 hJ hb) hJ hJ.1.2.1
theorem px_district (he : ai_env X B) {h : fx_H} (hJ : la_J h) {a1 : Nat} (h1 : a1 < 4294967296) {a2 : Nat} (h2 : a2 < 4294967296) : rx_met l X Y B 37 63 [fr 0, fc a1, fc a2] h la_KK := pu_x (ic_x317 he) (by decide) (by decide) rfl (by decide) ⟨rfl, iv_all h1, iv_all h2, trivial⟩ (fun q hq => by have hq : q ∈ ([] : List (Nat × ai_S)) := hq; cases hq) hJ trivial
theorem pm_district (he : ai_env X B) {h : fx_H} (hJ : la_J h) {a1 : Nat} (h1 : a1 < 4294967296) {a2 : Nat} (h2 : a2 < 4294967296) : rx_met l X Y B 38 63 [fr 67, fc a1, fc a2] h la_KK := by
  rcases pb_2 hJ with hb | hb
  · exact pu_x (ic_m_district_b0_b0 he) (by decide) (by decide) rfl (by decide) ⟨rfl, iv_all h1, iv_all h2, trivial⟩ (pf_0 hJ hb) hJ hJ.1.2.1
  · exact pu_x (ic_m_district_b1_b1 he) (by decide) (by decide) rfl (by decide) ⟨rfl, iv_all h1, iv_all h2, trivial⟩ (pf_1 hJ hb) hJ hJ.1.2.1
theorem px_seat (he : ai_env X B) {h : fx_H} (hJ : la_J h) {a1 : Nat} (h1 : a1 < 4294967296) {a2 : Nat} (h2 : a2 < 4294967296) : rx_met l X Y B 39 63 [fr 0, fc a1, fc a2] h la_KK := pu_x (ic_x319 he) (by decide) (by decide) rfl (by decide) ⟨rfl, iv_all h1, iv_all h2, trivial⟩ (fun q hq => by have hq : q ∈ ([] : List (Nat × ai_S)) := hq; cases hq) hJ trivial
theorem pm_seat (he : ai_env X B) {h : fx_H} (hJ : la_J h) {a1 : Nat} (h1 : a1 < 4294967296) {a2 : Nat} (h2 : a2 < 4294967296) : rx_met l X Y B 40 63 [fr 67, fc a1, fc a2] h la_KK := by
  rcases pb_2 hJ with hb | hb
  · exact pu_x (ic_m_seat_b0_b0 he) (by decide) (by decide) rfl (by decide) ⟨rfl, iv_all h1, iv_all h2, trivial⟩ (pf_0 hJ hb) hJ hJ.1.2.1
  · exact pu_x (ic_m_seat_b1_b1 he) (by decide) (by decide) rfl (by decide) ⟨rfl, iv_all h1, iv_all h2, trivial⟩ (pf_1 hJ hb) hJ hJ.1.2.1
theorem px_report (he : ai_env X B) {h : fx_H} (hJ : la_J h) : rx_met l X Y B 41 63 [fr 0] h la_KK := pu_x (ic_x321 he) (by decide) (by decide) rfl (by decide) ⟨rfl, trivial⟩ (fun q hq => by have hq : q ∈ ([] : List (Nat × ai_S)) := hq; cases hq) hJ trivial
theorem pm_report (he : ai_env X B) {h : fx_H} (hJ : la_J h) : rx_met l X Y B 42 63 [fr 67] h la_KK := by
  rcases pb_2 hJ with hb | hb
  · exact pu_x (ic_m_report_b0_b0 he) (by decide) (by decide) rfl (by decide) ⟨rfl, trivial⟩ (pf_0 hJ hb) hJ trivial
  · exact pu_x (ic_m_report_b1_b1 he) (by decide) (by decide) rfl (by decide) ⟨rfl, trivial⟩ (pf_1 hJ hb) hJ trivial
theorem px_off (he : ai_env X B) {h : fx_H} (hJ : la_J h) : rx_met l X Y B 43 63 [fr 0] h la_KK := pu_x (ic_x324 he) (by decide) (by decide) rfl (by decide) ⟨rfl, trivial⟩ (fun q hq => by have hq : q ∈ ([] : List (Nat × ai_S)) := hq; cases hq) hJ trivial
theorem pm_off (he : ai_env X B) {h : fx_H} (hJ : la_J h) : rx_met l X Y B 44 63 [fr 67] h la_KK := by
  rcases pb_2 hJ with hb | hb
  · exact pu_x (ic_m_off_b0_b0 he) (by decide) (by decide) rfl (by decide) ⟨rfl, trivial⟩ (pf_0 hJ hb) hJ hJ.1.2.1
  · exact pu_x (ic_m_off_b1_b1 he) (by decide) (by decide) rfl (by decide) ⟨rfl, trivial⟩ (pf_1 hJ hb) hJ hJ.1.2.1
theorem px_step (he : ai_env X B) {h : fx_H} (hJ : la_J h) : rx_met l X Y B 45 63 [fr 0] h la_KK := pu_x (ic_x332 he) (by decide) (by decide) rfl (by decide) ⟨rfl, trivial⟩ (fun q hq => by have hq : q ∈ ([] : List (Nat × ai_S)) := hq; cases hq) hJ trivial
theorem pm_step (he : ai_env X B) {h : fx_H} (hJ : la_J h) : rx_met l X Y B 46 63 [fr 67] h la_KK := by
  rcases pb_2 hJ with hb | hb
  · exact pu_a (ia_step_0 he) (by decide) rfl (by decide) ⟨rfl, trivial⟩ (pf_0 hJ hb) hJ
  · exact pu_a (ia_step_1 he) (by decide) rfl (by decide) ⟨rfl, trivial⟩ (pf_1 hJ hb) hJ
theorem px_news (he : ai_env X B) {h : fx_H} (hJ : la_J h) {a1 : Nat} (h1 : a1 < 4294967296) : rx_met l X Y B 47 63 [fr 0, fc a1] h la_KK := pu_x (ic_x333 he) (by decide) (by decide) rfl (by decide) ⟨rfl, iv_all h1, trivial⟩ (fun q hq => by have hq : q ∈ ([] : List (Nat × ai_S)) := hq; cases hq) hJ trivial
theorem pm_news (he : ai_env X B) {h : fx_H} (hJ : la_J h) {a1 : Nat} (h1 : a1 < 4294967296) : rx_met l X Y B 48 63 [fr 67, fc a1] h la_KK := by
  rcases pb_2 hJ with hb | hb
  · exact pu_a (ia_news_0 he) (by decide) rfl (by decide) ⟨rfl, iv_all h1, trivial⟩ (pf_0 hJ hb) hJ
  · exact pu_a (ia_news_1 he) (by decide) rfl (by decide) ⟨rfl, iv_all h1, trivial⟩ (pf_1 hJ hb) hJ
theorem px_sit (he : ai_env X B) {h : fx_H} (hJ : la_J h) {a1 : Nat} (h1 : a1 < 4294967296) {a2 : Nat} (h2 : a2 < 4294967296) : rx_met l X Y B 49 63 [fr 0, fc a1, fc a2] h la_KK := pu_x (ic_x334 he) (by decide) (by decide) rfl (by decide) ⟨rfl, iv_all h1, iv_all h2, trivial⟩ (fun q hq => by have hq : q ∈ ([] : List (Nat × ai_S)) := hq; cases hq) hJ trivial
theorem pm_sit (he : ai_env X B) {h : fx_H} (hJ : la_J h) {a1 : Nat} (h1 : a1 < 4294967296) {a2 : Nat} (h2 : a2 < 4294967296) : rx_met l X Y B 50 63 [fr 67, fc a1, fc a2] h la_KK := by
  rcases pb_2 hJ with hb | hb
  · exact pu_a (ia_sit_0 he) (by decide) rfl (by decide) ⟨rfl, iv_all h1, iv_all h2, trivial⟩ (pf_0 hJ hb) hJ
  · exact pu_a (ia_sit_1 he) (by decide) rfl (by decide) ⟨rfl, iv_all h1, iv_all h2, trivial⟩ (pf_1 hJ hb) hJ
theorem px_change (he : ai_env X B) {h : fx_H} (hJ : la_J h) {a1 : Nat} (h1 : a1 < 4294967296) {a2 : Nat} (h2 : a2 < 4294967296) : rx_met l X Y B 51 63 [fr 0, fc a1, fc a2] h la_KK := pu_x (ic_x335 he) (by decide) (by decide) rfl (by decide) ⟨rfl, iv_all h1, iv_all h2, trivial⟩ (fun q hq => by have hq : q ∈ ([] : List (Nat × ai_S)) := hq; cases hq) hJ trivial
theorem pm_change (he : ai_env X B) {h : fx_H} (hJ : la_J h) {a1 : Nat} (h1 : a1 < 4294967296) {a2 : Nat} (h2 : a2 < 4294967296) : rx_met l X Y B 52 63 [fr 67, fc a1, fc a2] h la_KK := by
  rcases pb_2 hJ with hb | hb
  · exact pu_a (ia_change_0 he) (by decide) rfl (by decide) ⟨rfl, iv_all h1, iv_all h2, trivial⟩ (pf_0 hJ hb) hJ
  · exact pu_a (ia_change_1 he) (by decide) rfl (by decide) ⟨rfl, iv_all h1, iv_all h2, trivial⟩ (pf_1 hJ hb) hJ
theorem px_unseat (he : ai_env X B) {h : fx_H} (hJ : la_J h) {a1 : Nat} (h1 : a1 < 4294967296) : rx_met l X Y B 53 63 [fr 0, fc a1] h la_KK := pu_x (ic_x336 he) (by decide) (by decide) rfl (by decide) ⟨rfl, iv_all h1, trivial⟩ (fun q hq => by have hq : q ∈ ([] : List (Nat × ai_S)) := hq; cases hq) hJ trivial
theorem pm_unseat (he : ai_env X B) {h : fx_H} (hJ : la_J h) {a1 : Nat} (h1 : a1 < 4294967296) : rx_met l X Y B 54 63 [fr 67, fc a1] h la_KK := by
  rcases pb_2 hJ with hb | hb
  · exact pu_a (ia_unseat_0 he) (by decide) rfl (by decide) ⟨rfl, iv_all h1, trivial⟩ (pf_0 hJ hb) hJ
  · exact pu_a (ia_unseat_1 he) (by decide) rfl (by decide) ⟨rfl, iv_all h1, trivial⟩ (pf_1 hJ hb) hJ
theorem px_undo (he : ai_env X B) {h : fx_H} (hJ : la_J h) : rx_met l X Y B 55 63 [fr 0] h la_KK := pu_x (ic_x337 he) (by decide) (by decide) rfl (by decide) ⟨rfl, trivial⟩ (fun q hq => by have hq : q ∈ ([] : List (Nat × ai_S)) := hq; cases hq) hJ trivial
theorem px_redo (he : ai_env X B) {h : fx_H} (hJ : la_J h) : rx_met l X Y B 57 63 [fr 0] h la_KK := pu_x (ic_x338 he) (by decide) (by decide) rfl (by decide) ⟨rfl, trivial⟩ (fun q hq => by have hq : q ∈ ([] : List (Nat × ai_S)) := hq; cases hq) hJ trivial
theorem px_stand (he : ai_env X B) {h : fx_H} (hJ : la_J h) {a1 : Nat} (h1 : a1 < 4294967296) {a2 : Nat} (h2 : a2 < 4294967296) : rx_met l X Y B 59 63 [fr 0, fc a1, fc a2] h la_KK := pu_x (ic_x343 he) (by decide) (by decide) rfl (by decide) ⟨rfl, iv_all h1, iv_all h2, trivial⟩ (fun q hq => by have hq : q ∈ ([] : List (Nat × ai_S)) := hq; cases hq) hJ trivial
theorem pm_stand (he : ai_env X B) {h : fx_H} (hJ : la_J h) {a1 : Nat} (h1 : a1 < 4294967296) {a2 : Nat} (h2 : a2 < 4294967296) : rx_met l X Y B 60 63 [fr 67, fc a1, fc a2] h la_KK := by
  rcases pb_2 hJ with hb | hb
  · exact pu_x (ic_m_stand_b0_b0 he) (by decide) (by decide) rfl (by decide) ⟨rfl, iv_all h1, iv_all h2, trivial⟩ (pf_0 hJ hb) hJ hJ.1.2.1
  · exact pu_x (ic_m_stand_b1_b1 he) (by decide) (by decide) rfl (by decide) ⟨rfl, iv_all h1, iv_all h2, trivial⟩ (pf_1 hJ hb) hJ hJ.1.2.1
theorem px_sample (he : ai_env X B) {h : fx_H} (hJ : la_J h) {a1 : Nat} (h1 : a1 < 4294967296) {a2 : Nat} (h2 : a2 < 4294967296) : rx_met l X Y B 61 63 [fr 0, fc a1, fc a2] h la_KK := pu_x (ic_x345 he) (by decide) (by decide) rfl (by decide) ⟨rfl, iv_all h1, iv_all h2, trivial⟩ (fun q hq => by have hq : q ∈ ([] : List (Nat × ai_S)) := hq; cases hq) hJ trivial
theorem pm_sample (he : ai_env X B) {h : fx_H} (hJ : la_J h) {a1 : Nat} (h1 : a1 < 4294967296) {a2 : Nat} (h2 : a2 < 4294967296) : rx_met l X Y B 62 63 [fr 67, fc a1, fc a2] h la_KK := by
  rcases pb_2 hJ with hb | hb
  · exact pu_x (ic_m_sample_b0_b0 he) (by decide) (by decide) rfl (by decide) ⟨rfl, iv_all h1, iv_all h2, trivial⟩ (pf_0 hJ hb) hJ hJ.1.2.1
  · exact pu_x (ic_m_sample_b1_b1 he) (by decide) (by decide) rfl (by decide) ⟨rfl, iv_all h1, iv_all h2, trivial⟩ (pf_1 hJ hb) hJ hJ.1.2.1
theorem px_samples (he : ai_env X B) {h : fx_H} (hJ : la_J h) {a1 : Nat} (h1 : a1 < 4294967296) : rx_met l X Y B 63 63 [fr 0, fc a1] h la_KK := pu_x (ic_x346 he) (by decide) (by decide) rfl (by decide) ⟨rfl, iv_all h1, trivial⟩ (fun q hq => by have hq : q ∈ ([] : List (Nat × ai_S)) := hq; cases hq) hJ trivial
theorem pm_samples (he : ai_env X B) {h : fx_H} (hJ : la_J h) {a1 : Nat} (h1 : a1 < 4294967296) : rx_met l X Y B 64 63 [fr 67, fc a1] h la_KK := by
  rcases pb_2 hJ with hb | hb
  · exact pu_x (ic_m_samples_b0_b0 he) (by decide) (by decide) rfl (by decide) ⟨rfl, iv_all h1, trivial⟩ (pf_0 hJ hb) hJ hJ.1.2.1
  · exact pu_x (ic_m_samples_b1_b1 he) (by decide) (by decide) rfl (by decide) ⟨rfl, iv_all h1, trivial⟩ (pf_1 hJ hb) hJ hJ.1.2.1
theorem px_chain (he : ai_env X B) {h : fx_H} (hJ : la_J h) {a1 : Nat} (h1 : a1 < 4294967296) {a2 : Nat} (h2 : a2 < 4294967296) : rx_met l X Y B 65 63 [fr 0, fc a1, fc a2] h la_KK := pu_x (ic_x350 he) (by decide) (by decide) rfl (by decide) ⟨rfl, iv_all h1, iv_all h2, trivial⟩ (fun q hq => by have hq : q ∈ ([] : List (Nat × ai_S)) := hq; cases hq) hJ trivial
theorem px_groups (he : ai_env X B) {h : fx_H} (hJ : la_J h) : rx_met l X Y B 67 63 [fr 0] h la_KK := pu_x (ic_x353 he) (by decide) (by decide) rfl (by decide) ⟨rfl, trivial⟩ (fun q hq => by have hq : q ∈ ([] : List (Nat × ai_S)) := hq; cases hq) hJ trivial
theorem pm_groups (he : ai_env X B) {h : fx_H} (hJ : la_J h) : rx_met l X Y B 68 63 [fr 67] h la_KK := by
  rcases pb_2 hJ with hb | hb
  · exact pu_x (ic_m_groups_b0_b0 he) (by decide) (by decide) rfl (by decide) ⟨rfl, trivial⟩ (pf_0 hJ hb) hJ hJ.1.2.1
  · exact pu_x (ic_m_groups_b1_b1 he) (by decide) (by decide) rfl (by decide) ⟨rfl, trivial⟩ (pf_1 hJ hb) hJ hJ.1.2.1
theorem px_place (he : ai_env X B) {h : fx_H} (hJ : la_J h) {a1 : Nat} (h1 : a1 < 4294967296) {a2 : Nat} (h2 : a2 < 4294967296) : rx_met l X Y B 69 63 [fr 0, fc a1, fc a2] h la_KK := pu_x (ic_x356 he) (by decide) (by decide) rfl (by decide) ⟨rfl, iv_all h1, iv_all h2, trivial⟩ (fun q hq => by have hq : q ∈ ([] : List (Nat × ai_S)) := hq; cases hq) hJ trivial
theorem pm_place (he : ai_env X B) {h : fx_H} (hJ : la_J h) {a1 : Nat} (h1 : a1 < 4294967296) {a2 : Nat} (h2 : a2 < 4294967296) : rx_met l X Y B 70 63 [fr 67, fc a1, fc a2] h la_KK := by
  rcases pb_2 hJ with hb | hb
  · exact pu_x (ic_m_place_b0_b0 he) (by decide) (by decide) rfl (by decide) ⟨rfl, iv_all h1, iv_all h2, trivial⟩ (pf_0 hJ hb) hJ hJ.1.2.1
  · exact pu_x (ic_m_place_b1_b1 he) (by decide) (by decide) rfl (by decide) ⟨rfl, iv_all h1, iv_all h2, trivial⟩ (pf_1 hJ hb) hJ hJ.1.2.1
theorem px_move (he : ai_env X B) {h : fx_H} (hJ : la_J h) {a1 : Nat} (h1 : a1 < 4294967296) : rx_met l X Y B 71 63 [fr 0, fc a1] h la_KK := pu_x (ic_x358 he) (by decide) (by decide) rfl (by decide) ⟨rfl, iv_all h1, trivial⟩ (fun q hq => by have hq : q ∈ ([] : List (Nat × ai_S)) := hq; cases hq) hJ trivial
theorem pm_move (he : ai_env X B) {h : fx_H} (hJ : la_J h) {a1 : Nat} (h1 : a1 < 4294967296) : rx_met l X Y B 72 63 [fr 67, fc a1] h la_KK := by
  rcases pb_2 hJ with hb | hb
  · exact pu_x (ic_m_move_b0_b0 he) (by decide) (by decide) rfl (by decide) ⟨rfl, iv_all h1, trivial⟩ (pf_0 hJ hb) hJ hJ.1.2.1
  · exact pu_x (ic_m_move_b1_b1 he) (by decide) (by decide) rfl (by decide) ⟨rfl, iv_all h1, trivial⟩ (pf_1 hJ hb) hJ hJ.1.2.1
theorem px_settled (he : ai_env X B) {h : fx_H} (hJ : la_J h) : rx_met l X Y B 73 63 [fr 0] h la_KK := pu_x (ic_x359 he) (by decide) (by decide) rfl (by decide) ⟨rfl, trivial⟩ (fun q hq => by have hq : q ∈ ([] : List (Nat × ai_S)) := hq; cases hq) hJ trivial
theorem pm_settled (he : ai_env X B) {h : fx_H} (hJ : la_J h) : rx_met l X Y B 74 63 [fr 67] h la_KK := by
  rcases pb_2 hJ with hb | hb
  · exact pu_x (ic_m_settled_b0_b0 he) (by decide) (by decide) rfl (by decide) ⟨rfl, trivial⟩ (pf_0 hJ hb) hJ hJ.1.2.1
  · exact pu_x (ic_m_settled_b1_b1 he) (by decide) (by decide) rfl (by decide) ⟨rfl, trivial⟩ (pf_1 hJ hb) hJ hJ.1.2.1
theorem px_will (he : ai_env X B) {h : fx_H} (hJ : la_J h) {a1 : Nat} (h1 : a1 < 4294967296) {a2 : Nat} (h2 : a2 < 4294967296) : rx_met l X Y B 75 63 [fr 0, fc a1, fc a2] h la_KK := pu_x (ic_x360 he) (by decide) (by decide) rfl (by decide) ⟨rfl, iv_all h1, iv_all h2, trivial⟩ (fun q hq => by have hq : q ∈ ([] : List (Nat × ai_S)) := hq; cases hq) hJ trivial
theorem pm_will (he : ai_env X B) {h : fx_H} (hJ : la_J h) {a1 : Nat} (h1 : a1 < 4294967296) {a2 : Nat} (h2 : a2 < 4294967296) : rx_met l X Y B 76 63 [fr 67, fc a1, fc a2] h la_KK := by
  rcases pb_2 hJ with hb | hb
  · exact pu_x (ic_m_will_b0_b0 he) (by decide) (by decide) rfl (by decide) ⟨rfl, iv_all h1, iv_all h2, trivial⟩ (pf_0 hJ hb) hJ hJ.1.2.1
  · exact pu_x (ic_m_will_b1_b1 he) (by decide) (by decide) rfl (by decide) ⟨rfl, iv_all h1, iv_all h2, trivial⟩ (pf_1 hJ hb) hJ hJ.1.2.1
theorem px_ahead (he : ai_env X B) {h : fx_H} (hJ : la_J h) {a1 : Nat} (h1 : a1 < 4294967296) : rx_met l X Y B 77 63 [fr 0, fc a1] h la_KK := pu_x (ic_x362 he) (by decide) (by decide) rfl (by decide) ⟨rfl, iv_all h1, trivial⟩ (fun q hq => by have hq : q ∈ ([] : List (Nat × ai_S)) := hq; cases hq) hJ trivial
theorem pm_ahead (he : ai_env X B) {h : fx_H} (hJ : la_J h) {a1 : Nat} (h1 : a1 < 4294967296) : rx_met l X Y B 78 63 [fr 67, fc a1] h la_KK := by
  rcases pb_2 hJ with hb | hb
  · exact pu_x (ic_m_ahead_b0_b0 he) (by decide) (by decide) rfl (by decide) ⟨rfl, iv_all h1, trivial⟩ (pf_0 hJ hb) hJ hJ.1.2.1
  · exact pu_x (ic_m_ahead_b1_b1 he) (by decide) (by decide) rfl (by decide) ⟨rfl, iv_all h1, trivial⟩ (pf_1 hJ hb) hJ hJ.1.2.1
theorem px_alike (he : ai_env X B) {h : fx_H} (hJ : la_J h) : rx_met l X Y B 79 63 [fr 0] h la_KK := pu_x (ic_x364 he) (by decide) (by decide) rfl (by decide) ⟨rfl, trivial⟩ (fun q hq => by have hq : q ∈ ([] : List (Nat × ai_S)) := hq; cases hq) hJ trivial
theorem pm_alike (he : ai_env X B) {h : fx_H} (hJ : la_J h) : rx_met l X Y B 80 63 [fr 67] h la_KK := by
  rcases pb_2 hJ with hb | hb
  · exact pu_x (ic_m_alike_b0_b0 he) (by decide) (by decide) rfl (by decide) ⟨rfl, trivial⟩ (pf_0 hJ hb) hJ hJ.1.2.1
  · exact pu_x (ic_m_alike_b1_b1 he) (by decide) (by decide) rfl (by decide) ⟨rfl, trivial⟩ (pf_1 hJ hb) hJ hJ.1.2.1
theorem px_unrest (he : ai_env X B) {h : fx_H} (hJ : la_J h) {a1 : Nat} (h1 : a1 < 4294967296) : rx_met l X Y B 81 63 [fr 0, fc a1] h la_KK := pu_x (ic_x365 he) (by decide) (by decide) rfl (by decide) ⟨rfl, iv_all h1, trivial⟩ (fun q hq => by have hq : q ∈ ([] : List (Nat × ai_S)) := hq; cases hq) hJ trivial
theorem pm_unrest (he : ai_env X B) {h : fx_H} (hJ : la_J h) {a1 : Nat} (h1 : a1 < 4294967296) : rx_met l X Y B 82 63 [fr 67, fc a1] h la_KK := by
  rcases pb_2 hJ with hb | hb
  · exact pu_x (ic_m_unrest_b0_b0 he) (by decide) (by decide) rfl (by decide) ⟨rfl, iv_all h1, trivial⟩ (pf_0 hJ hb) hJ hJ.1.2.1
  · exact pu_x (ic_m_unrest_b1_b1 he) (by decide) (by decide) rfl (by decide) ⟨rfl, iv_all h1, trivial⟩ (pf_1 hJ hb) hJ hJ.1.2.1
theorem px_sways (he : ai_env X B) {h : fx_H} (hJ : la_J h) {a1 : Nat} (h1 : a1 < 4294967296) {a2 : Nat} (h2 : a2 < 4294967296) {a3 : Nat} (h3 : a3 < 4294967296) : rx_met l X Y B 83 63 [fr 0, fc a1, fc a2, fc a3] h la_KK := pu_x (ic_x367 he) (by decide) (by decide) rfl (by decide) ⟨rfl, iv_all h1, iv_all h2, iv_all h3, trivial⟩ (fun q hq => by have hq : q ∈ ([] : List (Nat × ai_S)) := hq; cases hq) hJ trivial
theorem pm_sways (he : ai_env X B) {h : fx_H} (hJ : la_J h) {a1 : Nat} (h1 : a1 < 4294967296) {a2 : Nat} (h2 : a2 < 4294967296) {a3 : Nat} (h3 : a3 < 4294967296) : rx_met l X Y B 84 63 [fr 67, fc a1, fc a2, fc a3] h la_KK := by
  rcases pb_2 hJ with hb | hb
  · exact pu_x (ic_m_sways_b0_b0 he) (by decide) (by decide) rfl (by decide) ⟨rfl, iv_all h1, iv_all h2, iv_all h3, trivial⟩ (pf_0 hJ hb) hJ hJ.1.2.1
  · exact pu_x (ic_m_sways_b1_b1 he) (by decide) (by decide) rfl (by decide) ⟨rfl, iv_all h1, iv_all h2, iv_all h3, trivial⟩ (pf_1 hJ hb) hJ hJ.1.2.1
theorem px_brightest (he : ai_env X B) {h : fx_H} (hJ : la_J h) : rx_met l X Y B 85 63 [fr 0] h la_KK := pu_x (ic_x368 he) (by decide) (by decide) rfl (by decide) ⟨rfl, trivial⟩ (fun q hq => by have hq : q ∈ ([] : List (Nat × ai_S)) := hq; cases hq) hJ trivial
theorem pm_brightest (he : ai_env X B) {h : fx_H} (hJ : la_J h) : rx_met l X Y B 86 63 [fr 67] h la_KK := by
  rcases pb_2 hJ with hb | hb
  · exact pu_x (ic_m_brightest_b0_b0 he) (by decide) (by decide) rfl (by decide) ⟨rfl, trivial⟩ (pf_0 hJ hb) hJ hJ.1.2.1
  · exact pu_x (ic_m_brightest_b1_b1 he) (by decide) (by decide) rfl (by decide) ⟨rfl, trivial⟩ (pf_1 hJ hb) hJ hJ.1.2.1
theorem px_parties (he : ai_env X B) {h : fx_H} (hJ : la_J h) {a1 : Nat} (h1 : a1 < 4294967296) {a2 : Nat} (h2 : a2 < 4294967296) : rx_met l X Y B 87 63 [fr 0, fc a1, fc a2] h la_KK := pu_x (ic_x373 he) (by decide) (by decide) rfl (by decide) ⟨rfl, iv_all h1, iv_all h2, trivial⟩ (fun q hq => by have hq : q ∈ ([] : List (Nat × ai_S)) := hq; cases hq) hJ trivial
theorem pm_parties (he : ai_env X B) {h : fx_H} (hJ : la_J h) {a1 : Nat} (h1 : a1 < 4294967296) {a2 : Nat} (h2 : a2 < 4294967296) : rx_met l X Y B 88 63 [fr 67, fc a1, fc a2] h la_KK := by
  rcases pb_2 hJ with hb | hb
  · exact pu_x (ic_m_parties_b0_b0 he) (by decide) (by decide) rfl (by decide) ⟨rfl, iv_all h1, iv_all h2, trivial⟩ (pf_0 hJ hb) hJ hJ.1.2.1
  · exact pu_x (ic_m_parties_b1_b1 he) (by decide) (by decide) rfl (by decide) ⟨rfl, iv_all h1, iv_all h2, trivial⟩ (pf_1 hJ hb) hJ hJ.1.2.1
theorem px_least (he : ai_env X B) {h : fx_H} (hJ : la_J h) {a1 : Nat} (h1 : a1 < 4294967296) {a2 : Nat} (h2 : a2 < 4294967296) : rx_met l X Y B 89 63 [fr 0, fc a1, fc a2] h la_KK := pu_x (ic_x375 he) (by decide) (by decide) rfl (by decide) ⟨rfl, iv_all h1, iv_all h2, trivial⟩ (fun q hq => by have hq : q ∈ ([] : List (Nat × ai_S)) := hq; cases hq) hJ trivial
theorem pm_least (he : ai_env X B) {h : fx_H} (hJ : la_J h) {a1 : Nat} (h1 : a1 < 4294967296) {a2 : Nat} (h2 : a2 < 4294967296) : rx_met l X Y B 90 63 [fr 67, fc a1, fc a2] h la_KK := by
  rcases pb_2 hJ with hb | hb
  · exact pu_x (ic_m_least_b0_b0 he) (by decide) (by decide) rfl (by decide) ⟨rfl, iv_all h1, iv_all h2, trivial⟩ (pf_0 hJ hb) hJ hJ.1.2.1
  · exact pu_x (ic_m_least_b1_b1 he) (by decide) (by decide) rfl (by decide) ⟨rfl, iv_all h1, iv_all h2, trivial⟩ (pf_1 hJ hb) hJ hJ.1.2.1
theorem px_best (he : ai_env X B) {h : fx_H} (hJ : la_J h) {a1 : Nat} (h1 : a1 < 4294967296) : rx_met l X Y B 91 63 [fr 0, fc a1] h la_KK := pu_x (ic_x376 he) (by decide) (by decide) rfl (by decide) ⟨rfl, iv_all h1, trivial⟩ (fun q hq => by have hq : q ∈ ([] : List (Nat × ai_S)) := hq; cases hq) hJ trivial
theorem pm_best (he : ai_env X B) {h : fx_H} (hJ : la_J h) {a1 : Nat} (h1 : a1 < 4294967296) : rx_met l X Y B 92 63 [fr 67, fc a1] h la_KK := by
  rcases pb_2 hJ with hb | hb
  · exact pu_x (ic_m_best_b0_b0 he) (by decide) (by decide) rfl (by decide) ⟨rfl, iv_all h1, trivial⟩ (pf_0 hJ hb) hJ hJ.1.2.1
  · exact pu_x (ic_m_best_b1_b1 he) (by decide) (by decide) rfl (by decide) ⟨rfl, iv_all h1, trivial⟩ (pf_1 hJ hb) hJ hJ.1.2.1
theorem px_odds (he : ai_env X B) {h : fx_H} (hJ : la_J h) {a1 : Nat} (h1 : a1 < 4294967296) {a2 : Nat} (h2 : a2 < 4294967296) : rx_met l X Y B 93 63 [fr 0, fc a1, fc a2] h la_KK := pu_x (ic_x379 he) (by decide) (by decide) rfl (by decide) ⟨rfl, iv_all h1, iv_all h2, trivial⟩ (fun q hq => by have hq : q ∈ ([] : List (Nat × ai_S)) := hq; cases hq) hJ trivial
theorem pm_odds (he : ai_env X B) {h : fx_H} (hJ : la_J h) {a1 : Nat} (h1 : a1 < 4294967296) {a2 : Nat} (h2 : a2 < 4294967296) : rx_met l X Y B 94 63 [fr 67, fc a1, fc a2] h la_KK := by
  rcases pb_2 hJ with hb | hb
  · exact pu_x (ic_m_odds_b0_b0 he) (by decide) (by decide) rfl (by decide) ⟨rfl, iv_all h1, iv_all h2, trivial⟩ (pf_0 hJ hb) hJ hJ.1.2.1
  · exact pu_x (ic_m_odds_b1_b1 he) (by decide) (by decide) rfl (by decide) ⟨rfl, iv_all h1, iv_all h2, trivial⟩ (pf_1 hJ hb) hJ hJ.1.2.1
theorem px_moved (he : ai_env X B) {h : fx_H} (hJ : la_J h) {a1 : Nat} (h1 : a1 < 4294967296) : rx_met l X Y B 95 63 [fr 0, fc a1] h la_KK := pu_x (ic_x380 he) (by decide) (by decide) rfl (by decide) ⟨rfl, iv_all h1, trivial⟩ (fun q hq => by have hq : q ∈ ([] : List (Nat × ai_S)) := hq; cases hq) hJ trivial
theorem pm_moved (he : ai_env X B) {h : fx_H} (hJ : la_J h) {a1 : Nat} (h1 : a1 < 4294967296) : rx_met l X Y B 96 63 [fr 67, fc a1] h la_KK := by
  rcases pb_2 hJ with hb | hb
  · exact pu_x (ic_m_moved_b0_b0 he) (by decide) (by decide) rfl (by decide) ⟨rfl, iv_all h1, trivial⟩ (pf_0 hJ hb) hJ hJ.1.2.1
  · exact pu_x (ic_m_moved_b1_b1 he) (by decide) (by decide) rfl (by decide) ⟨rfl, iv_all h1, trivial⟩ (pf_1 hJ hb) hJ hJ.1.2.1
theorem px_key (he : ai_env X B) {h : fx_H} (hJ : la_J h) : rx_met l X Y B 97 63 [fr 0] h la_KK := pu_x (ic_x381 he) (by decide) (by decide) rfl (by decide) ⟨rfl, trivial⟩ (fun q hq => by have hq : q ∈ ([] : List (Nat × ai_S)) := hq; cases hq) hJ trivial
theorem pm_key (he : ai_env X B) {h : fx_H} (hJ : la_J h) : rx_met l X Y B 98 63 [fr 67] h la_KK := by
  rcases pb_2 hJ with hb | hb
  · exact pu_x (ic_m_key_b0_b0 he) (by decide) (by decide) rfl (by decide) ⟨rfl, trivial⟩ (pf_0 hJ hb) hJ hJ.1.2.1
  · exact pu_x (ic_m_key_b1_b1 he) (by decide) (by decide) rfl (by decide) ⟨rfl, trivial⟩ (pf_1 hJ hb) hJ hJ.1.2.1
theorem px_lies (he : ai_env X B) {h : fx_H} (hJ : la_J h) {a1 : Nat} (h1 : a1 < 4294967296) : rx_met l X Y B 99 63 [fr 0, fc a1] h la_KK := pu_x (ic_x382 he) (by decide) (by decide) rfl (by decide) ⟨rfl, iv_all h1, trivial⟩ (fun q hq => by have hq : q ∈ ([] : List (Nat × ai_S)) := hq; cases hq) hJ trivial
theorem pm_lies (he : ai_env X B) {h : fx_H} (hJ : la_J h) {a1 : Nat} (h1 : a1 < 4294967296) : rx_met l X Y B 100 63 [fr 67, fc a1] h la_KK := by
  rcases pb_2 hJ with hb | hb
  · exact pu_x (ic_m_lies_b0_b0 he) (by decide) (by decide) rfl (by decide) ⟨rfl, iv_all h1, trivial⟩ (pf_0 hJ hb) hJ trivial
  · exact pu_x (ic_m_lies_b1_b1 he) (by decide) (by decide) rfl (by decide) ⟨rfl, iv_all h1, trivial⟩ (pf_1 hJ hb) hJ trivial
theorem px_looks (he : ai_env X B) {h : fx_H} (hJ : la_J h) {a1 : Nat} (h1 : a1 < 4294967296) {a2 : Nat} (h2 : a2 < 4294967296) {a3 : Nat} (h3 : a3 < 4294967296) {a4 : Nat} (h4 : a4 < 2) : rx_met l X Y B 101 63 [fr 0, fc a1, fc a2, fc a3, fc a4] h la_KK := pu_x (ic_x383 he) (by decide) (by decide) rfl (by decide) ⟨rfl, iv_all h1, iv_all h2, iv_all h3, iv_bool h4, trivial⟩ (fun q hq => by have hq : q ∈ ([] : List (Nat × ai_S)) := hq; cases hq) hJ trivial
theorem pm_looks (he : ai_env X B) {h : fx_H} (hJ : la_J h) {a1 : Nat} (h1 : a1 < 4294967296) {a2 : Nat} (h2 : a2 < 4294967296) {a3 : Nat} (h3 : a3 < 4294967296) {a4 : Nat} (h4 : a4 < 2) : rx_met l X Y B 102 63 [fr 67, fc a1, fc a2, fc a3, fc a4] h la_KK := by
  rcases pb_2 hJ with hb | hb
  · exact pu_x (ic_m_looks_b0_b0 he) (by decide) (by decide) rfl (by decide) ⟨rfl, iv_all h1, iv_all h2, iv_all h3, iv_bool h4, trivial⟩ (pf_0 hJ hb) hJ trivial
  · exact pu_x (ic_m_looks_b1_b1 he) (by decide) (by decide) rfl (by decide) ⟨rfl, iv_all h1, iv_all h2, iv_all h3, iv_bool h4, trivial⟩ (pf_1 hJ hb) hJ trivial
theorem px_untell (he : ai_env X B) {h : fx_H} (hJ : la_J h) {a1 : Nat} (h1 : a1 < 4294967296) : rx_met l X Y B 103 63 [fr 0, fc a1] h la_KK := pu_x (ic_x384 he) (by decide) (by decide) rfl (by decide) ⟨rfl, iv_all h1, trivial⟩ (fun q hq => by have hq : q ∈ ([] : List (Nat × ai_S)) := hq; cases hq) hJ trivial
theorem pm_untell (he : ai_env X B) {h : fx_H} (hJ : la_J h) {a1 : Nat} (h1 : a1 < 4294967296) : rx_met l X Y B 104 63 [fr 67, fc a1] h la_KK := by
  rcases pb_2 hJ with hb | hb
  · exact pu_x (ic_m_untell_b0_b0 he) (by decide) (by decide) rfl (by decide) ⟨rfl, iv_all h1, trivial⟩ (pf_0 hJ hb) hJ trivial
  · exact pu_x (ic_m_untell_b1_b1 he) (by decide) (by decide) rfl (by decide) ⟨rfl, iv_all h1, trivial⟩ (pf_1 hJ hb) hJ trivial
theorem px_fits (he : ai_env X B) {h : fx_H} (hJ : la_J h) {a1 : Nat} (h1 : a1 < 4294967296) : rx_met l X Y B 107 63 [fr 0, fc a1] h la_KK := pu_x (ic_x390 he) (by decide) (by decide) rfl (by decide) ⟨rfl, iv_all h1, trivial⟩ (fun q hq => by have hq : q ∈ ([] : List (Nat × ai_S)) := hq; cases hq) hJ trivial
theorem pm_fits (he : ai_env X B) {h : fx_H} (hJ : la_J h) {a1 : Nat} (h1 : a1 < 4294967296) : rx_met l X Y B 108 63 [fr 67, fc a1] h la_KK := by
  rcases pb_2 hJ with hb | hb
  · exact pu_x (ic_m_fits_b0_b0 he) (by decide) (by decide) rfl (by decide) ⟨rfl, iv_all h1, trivial⟩ (pf_0 hJ hb) hJ hJ.1.2.1
  · exact pu_x (ic_m_fits_b1_b1 he) (by decide) (by decide) rfl (by decide) ⟨rfl, iv_all h1, trivial⟩ (pf_1 hJ hb) hJ hJ.1.2.1
theorem px_ask (he : ai_env X B) {h : fx_H} (hJ : la_J h) {a1 : Nat} (h1 : a1 < 4294967296) {a2 : Nat} (h2 : a2 < 4294967296) {a3 : Nat} (h3 : a3 < 4294967296) : rx_met l X Y B 109 63 [fr 0, fc a1, fc a2, fc a3] h la_KK := pu_x (ic_x394 he) (by decide) (by decide) rfl (by decide) ⟨rfl, iv_all h1, iv_all h2, iv_all h3, trivial⟩ (fun q hq => by have hq : q ∈ ([] : List (Nat × ai_S)) := hq; cases hq) hJ trivial
theorem pm_ask (he : ai_env X B) {h : fx_H} (hJ : la_J h) {a1 : Nat} (h1 : a1 < 4294967296) {a2 : Nat} (h2 : a2 < 4294967296) {a3 : Nat} (h3 : a3 < 4294967296) : rx_met l X Y B 110 63 [fr 67, fc a1, fc a2, fc a3] h la_KK := by
  rcases pb_2 hJ with hb | hb
  · exact pu_x (ic_m_ask_b0_b0 he) (by decide) (by decide) rfl (by decide) ⟨rfl, iv_all h1, iv_all h2, iv_all h3, trivial⟩ (pf_0 hJ hb) hJ hJ.1.2.1
  · exact pu_x (ic_m_ask_b1_b1 he) (by decide) (by decide) rfl (by decide) ⟨rfl, iv_all h1, iv_all h2, iv_all h3, trivial⟩ (pf_1 hJ hb) hJ hJ.1.2.1
theorem px_image (he : ai_env X B) {h : fx_H} (hJ : la_J h) {a1 : Nat} (h1 : a1 < 4294967296) : rx_met l X Y B 111 63 [fr 0, fc a1] h la_KK := pu_x (ic_x395 he) (by decide) (by decide) rfl (by decide) ⟨rfl, iv_all h1, trivial⟩ (fun q hq => by have hq : q ∈ ([] : List (Nat × ai_S)) := hq; cases hq) hJ trivial
theorem pm_image (he : ai_env X B) {h : fx_H} (hJ : la_J h) {a1 : Nat} (h1 : a1 < 4294967296) : rx_met l X Y B 112 63 [fr 67, fc a1] h la_KK := by
  rcases pb_2 hJ with hb | hb
  · exact pu_x (ic_m_image_b0_b0 he) (by decide) (by decide) rfl (by decide) ⟨rfl, iv_all h1, trivial⟩ (pf_0 hJ hb) hJ trivial
  · exact pu_x (ic_m_image_b1_b1 he) (by decide) (by decide) rfl (by decide) ⟨rfl, iv_all h1, trivial⟩ (pf_1 hJ hb) hJ trivial
theorem px_back (he : ai_env X B) {h : fx_H} (hJ : la_J h) {a1 : Nat} (h1 : a1 < 4294967296) : rx_met l X Y B 113 63 [fr 0, fc a1] h la_KK := pu_x (ic_x396 he) (by decide) (by decide) rfl (by decide) ⟨rfl, iv_all h1, trivial⟩ (fun q hq => by have hq : q ∈ ([] : List (Nat × ai_S)) := hq; cases hq) hJ trivial
theorem px_about (he : ai_env X B) {h : fx_H} (hJ : la_J h) {a1 : Nat} (h1 : a1 < 4294967296) : rx_met l X Y B 115 63 [fr 0, fc a1] h la_KK := pu_x (ic_x397 he) (by decide) (by decide) rfl (by decide) ⟨rfl, iv_all h1, trivial⟩ (fun q hq => by have hq : q ∈ ([] : List (Nat × ai_S)) := hq; cases hq) hJ trivial
theorem pm_about (he : ai_env X B) {h : fx_H} (hJ : la_J h) {a1 : Nat} (h1 : a1 < 4294967296) : rx_met l X Y B 116 63 [fr 67, fc a1] h la_KK := by
  rcases pb_2 hJ with hb | hb
  · exact pu_x (ic_m_about_b0_b0 he) (by decide) (by decide) rfl (by decide) ⟨rfl, iv_all h1, trivial⟩ (pf_0 hJ hb) hJ trivial
  · exact pu_x (ic_m_about_b1_b1 he) (by decide) (by decide) rfl (by decide) ⟨rfl, iv_all h1, trivial⟩ (pf_1 hJ hb) hJ trivial
theorem pm_senate (he : ai_env X B) {h : fx_H} (hJ : la_J h) : rx_met l X Y B 32 63 [fr 67] h la_KK := by
  refine rx_met_mono (rx_met_deep (by decide : 14 ≤ 63) (sn_met he hJ.1)) (fun v h' q => ?_)
  obtain ⟨q1, q2, q3⟩ := q
  have e1 : gv h' 12 = gv h 12 := gv_fr (q3 _ rfl rfl)
  have e2 : gv h' 274502 = gv h 274502 := gv_fr (q3 _ rfl rfl)
  have := hJ.2
  exact ⟨q1, q2, by omega, by omega⟩
theorem pm_undo (he : ai_env X B) {h : fx_H} (hJ : la_J h) : rx_met l X Y B 56 63 [fr 67] h la_KK := by
  refine rx_met_mono (un_met (d := 62) he hJ.1.1 hJ.1.2.2.2) (fun v h' q => ?_)
  obtain ⟨⟨x, q1, -⟩, q2, q3, q4⟩ := q
  exact ⟨⟨x, q1⟩, la_J_of (by decide) hJ q2 q4 q3⟩
theorem pm_redo (he : ai_env X B) {h : fx_H} (hJ : la_J h) : rx_met l X Y B 58 63 [fr 67] h la_KK := by
  refine rx_met_mono (re_met (d := 62) he hJ.1.1 hJ.1.2.2.2) (fun v h' q => ?_)
  obtain ⟨⟨x, q1, -⟩, q2, q3, q4⟩ := q
  exact ⟨⟨x, q1⟩, la_J_of (by decide) hJ q2 q4 q3⟩
theorem pm_chain (he : ai_env X B) {h : fx_H} (hJ : la_J h) {a1 : Nat} (h1 : a1 < 4294967296) {a2 : Nat} (h2 : a2 < 4294967296) : rx_met l X Y B 66 63 [fr 67, fc a1, fc a2] h la_KK := by
  refine rx_met_mono (ch_met (d := 60) he hJ.1.1 hJ.1.2.2.1 h1 h2) (fun v h' q => ?_)
  obtain ⟨⟨x, q1, -⟩, q2, q4⟩ := q
  exact ⟨⟨x, q1⟩, la_J_of (by decide) hJ q2 q4 (mo_A_fr (by decide) _ _ hJ.1.2.2.2 q4)⟩
theorem hu_114 : ru_u fm_114.1 = true := by decide +kernel
theorem bk_loop (he : ai_env X B) {K : rx_K} {d b : Nat} (hb : b ≤ 2) : ∀ n k h, n + k = 17 → ai_inv ai_T0 h → (∀ h', ai_inv ai_T0 h' → ai_fr ([], [96]) h h' → ru l X Y B d fm_114.1 51 [(0, fr 67)] [] h' K) → ru l X Y B d fm_114.1 22 [(2, fc k), (1, fc b), (0, fr 67)] [] h K := by
  have hu := hu_114
  intro n
  induction n with
  | zero =>
    intro k h hk hI kk
    refine w_ld he hu rfl rfl rfl rfl rfl ?_
    refine w_c he hu rfl rfl rfl rfl ?_
    refine w_cmp he hu rfl rfl rfl (ru_ne rfl) (fun c1 => ?_) (fun c1 => ?_)
    · exact ru_sub [(0, fr 67)] ⟨rfl, trivial⟩ (kk h hI ai_fr_refl)
    · rw [rc_ge (by omega) (by omega)] at c1
      have := fx_nle c1
      omega
  | succ n ih =>
    intro k h hk hI kk
    refine w_ld he hu rfl rfl rfl rfl rfl ?_
    refine w_c he hu rfl rfl rfl rfl ?_
    refine w_cmp he hu rfl rfl rfl (ru_ne rfl) (fun c1 => ?_) (fun c1 => ?_)
    · rw [rc_ge (by omega) (by omega)] at c1
      have := fx_ble c1
      omega
    · refine w_ld he hu rfl rfl rfl rfl rfl ?_
      refine w_gr 274482 96 he hu hI rfl rfl rfl rfl ?_
      refine w_ld he hu rfl rfl rfl rfl rfl ?_
      refine w_ld he hu rfl rfl rfl rfl rfl ?_
      refine w_gr 274503 112 he hu hI rfl rfl rfl rfl ?_
      refine w_c he hu rfl rfl rfl rfl ?_
      refine w_ld he hu rfl rfl rfl rfl rfl ?_
      refine w_bin hu rfl rfl (fun q => by omega) ?_
      refine w_ld he hu rfl rfl rfl rfl rfl ?_
      refine w_bin hu rfl rfl (fun q => by omega) ?_
      rw [rop_mul (by omega), rop_add (by omega)]
      refine w_ald he hu hI rfl rfl rfl rfl (by omega) ?_
      obtain ⟨q, q1, q2, q3, q4⟩ := mo_row (r := 112) (len := 51) hI rfl (by decide) (i := 17 * b + k) (by omega) (j := k) (by omega)
      refine w_ast he hu hI rfl rfl rfl rfl (by omega) q1 q2 q3 q4 (fun h1 u1 hI1 => ?_)
      refine w_inc he hu rfl rfl rfl ?_
      rw [rm_inc (by omega)]
      refine w_go he hu rfl (ru_ne rfl) ?_
      have f1 : ai_fr ([], [96]) h h1 := u1.fr (Or.inr (by rw [show (96 * 4096 + k) / 4096 = 96 by omega]; rfl))
      exact ru_sub [(2, fc (k + 1)), (1, fc b), (0, fr 67)] ⟨rfl, rfl, rfl, trivial⟩ (ih (k + 1) h1 (by omega) hI1 (fun h' i1 i2 => kk h' i1 (ai_fr_trans f1 i2)))
theorem pm_back (he : ai_env X B) {h : fx_H} (hJ : la_J h) {a1 : Nat} (h1 : a1 < 4294967296) : rx_met l X Y B 114 63 [fr 67, fc a1] h la_KK := by
  have hI := hJ.1.1
  refine ru_met (M := fm_114) rfl rfl (by simp [fm_114]) ?_
  have hu := hu_114
  have ex : fx_b a1 = (a1 + 2147483648) % 4294967296 := rfl
  have e2 : fx_b 2 = 2147483650 := rb_small (by decide)
  have e0 : fx_b 0 = 2147483648 := rb_small (by decide)
  have none_ : ru l X Y B 63 fm_114.1 18 (fx_args [fr 67, fc a1] 0) [] h la_KK := by
    refine w_c he hu rfl rfl rfl rfl ?_
    exact w_iret he hu rfl rfl ⟨⟨_, rfl⟩, hJ⟩
  refine w_ld he hu rfl rfl rfl rfl rfl ?_
  refine w_c he hu rfl rfl rfl rfl ?_
  refine w_c he hu rfl rfl rfl rfl ?_
  refine w_callS he hu rfl rfl rfl rfl (in_met he) (fun v h2 q => ?_)
  obtain ⟨rfl, q⟩ := q
  rcases q with ⟨rfl, q1, q2⟩ | ⟨rfl, q1⟩
  rotate_left
  · refine w_cmp0 he hu rfl rfl rfl (ru_ne rfl) (fun c1 => none_) (fun c1 => ?_)
    rw [rc_eq0 (by decide)] at c1
    cases c1
  have hx2 : a1 ≤ 2 := by omega
  refine w_cmp0 he hu rfl rfl rfl (ru_ne rfl) (fun c1 => none_) (fun c1 => ?_)
  refine w_ld he hu rfl rfl rfl rfl rfl ?_
  refine w_gr 274504 113 he hu hI rfl rfl rfl rfl ?_
  refine w_ld he hu rfl rfl rfl rfl rfl ?_
  refine w_ald he hu hI rfl rfl rfl rfl (by omega) ?_
  refine w_cmp0 he hu rfl rfl rfl (ru_ne rfl) (fun c2 => ?_) (fun c2 => none_)
  refine w_c he hu rfl rfl rfl rfl ?_
  refine w_st he hu rfl rfl rfl rfl ?_
  refine ru_sub [(2, fc 0), (1, fc a1), (0, fr 67)] ⟨rfl, rfl, rfl, trivial⟩ (bk_loop he hx2 17 0 h2 rfl hI (fun h3 hI3 f3 => ?_))
  refine w_ld he hu rfl rfl rfl rfl rfl ?_
  refine w_c he hu rfl rfl rfl rfl ?_
  refine w_pi 274485 he hu hI3 rfl rfl rfl rfl (by decide) (by decide) (by decide) (fun h4 u4 hI4 => ?_)
  refine w_ld he hu rfl rfl rfl rfl rfl ?_
  refine w_c he hu rfl rfl rfl rfl ?_
  refine w_pi 274486 he hu hI4 rfl rfl rfl rfl (by decide) (by decide) (by decide) (fun h5 u5 hI5 => ?_)
  refine w_ld he hu rfl rfl rfl rfl rfl ?_
  refine w_gr 274482 96 he hu hI5 rfl rfl rfl rfl ?_
  refine w_c he hu rfl rfl rfl rfl ?_
  refine w_ald he hu hI5 rfl rfl rfl rfl (by decide) ?_
  have a5 : gv h5 274485 = 0 := by rw [u5.off (by decide)]; exact u4.at
  have b5 : gv h5 274486 = 0 := u5.at
  exact w_iret he hu rfl rfl ⟨⟨_, rfl⟩, la_J_of (m := ([274485, 274486], [96])) (by decide) hJ hI5 (ai_fr_trans (ai_fr_of f3 (by decide)) (ai_fr_trans (u4.fr (Or.inl rfl)) (u5.fr (Or.inl rfl)))) (by unfold mo_A; omega)⟩
end PU
