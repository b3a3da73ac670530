section CP
variable {l : Launch} {X : fx_X} {Y : fx_Y} {B : fx_B} {d : Nat}
theorem iv_any {n : Nat} (h : n < 4294967296) : ai_sp (.inl (0, 4294967295)) (fc n) := ⟨n, rfl, h, Nat.zero_le _, Nat.le_of_lt_succ (rx_b_lt n)⟩
theorem cm_of {I : ai_I} {c : Nat} {as : List fx_V} {h : fx_H} (hc : ai_con l X Y B ai_T0 ai_N c I) (h1 : ai_as I.1.1 as) (h2 : ∀ q ∈ I.1.2, ai_at h q) (hI : ai_inv ai_T0 h) (hd : I.2.2.2 ≤ d) (ha : I.2.1.1 = some (.inl (0, 4294967295))) (hm : I.2.2.1 = ([], [])) : cm_any l X Y B d c as h := by
  refine rx_met_mono (rx_met_deep hd (hc as h h1 h2 hI trivial)) (fun v h' q => ?_)
  obtain ⟨q1, -, q3, q4, -⟩ := q
  rw [ha] at q1
  cases v with
  | none => exact False.elim q1
  | some v =>
    obtain ⟨z, e1, e2, -⟩ := (show ai_sp (.inl (0, 4294967295)) v from q1)
    subst e1
    rw [hm] at q4
    exact ⟨z, rfl, e2, q3, q4⟩
theorem cm_asked (he : ai_env X B) {b : Nat} (hb : b < 2) {h : fx_H} {c n : Nat} (hI : ai_inv ai_T0 h) (hbk : gv h 274469 = b) (hcol : b = 1 → 1 ≤ gv h 286721) (hc : c < 4294967296) (hn : n < 4294967296) : cm_any l X Y B d 262 [fr 67, fc c, fc n] h := by
  rcases (by omega : b = 0 ∨ b = 1) with rfl | rfl
  · refine cm_of (ic_m_asked_b0_b0 he) ⟨rfl, iv_any hc, iv_any hn, trivial⟩ (fun q hq => ?_) hI (Nat.zero_le _) rfl rfl
    have hq : q ∈ [((274469, .inl (2147483648, 2147483648)) : Nat × ai_S)] := hq
    rcases List.mem_cons.mp hq with rfl | hq
    · exact mo_iv 0 0 hI rfl (by omega) (by omega) (by decide)
    · cases hq
  · refine cm_of (ic_m_asked_b1_b1 he) ⟨rfl, iv_any hc, iv_any hn, trivial⟩ (fun q hq => ?_) hI (Nat.zero_le _) rfl rfl
    have hq : q ∈ [((274469, .inl (2147483649, 2147483649)) : Nat × ai_S), (286721, .inl (2147483649, 2147483652))] := hq
    rcases List.mem_cons.mp hq with rfl | hq
    · exact mo_iv 1 1 hI rfl (by omega) (by omega) (by decide)
    · rcases List.mem_cons.mp hq with rfl | hq
      · obtain ⟨-, a1, a2⟩ := gv_nat (p := 286721) (lo := 0) (hi := 4) hI rfl (by decide)
        exact mo_iv 1 4 hI rfl (hcol rfl) a2 (by decide)
      · cases hq
theorem cm_two (he : ai_env X B) {h : fx_H} {c x y : Nat} (hI : ai_inv ai_T0 h) (hc : c < 4294967296) (hx : x < 4294967296) (hy : y < 4294967296) : cm_any l X Y B d 263 [fc c, fc x, fc y] h := cm_of (ic_m_two_t he) ⟨iv_any hc, iv_any hx, iv_any hy, trivial⟩ (fun q hq => by cases hq) hI (Nat.zero_le _) rfl rfl
theorem cm_met (he : ai_env X B) {b r : Nat} (hb : b < 2) (hr : r < 2) {h : fx_H} (hI : ai_inv ai_T0 h) (hP : mo_P h) (hbk : gv h 274469 = b) (hcol : b = 1 → 1 ≤ gv h 286721) (hlook : gv h (86 * 4096 + (2 * b + r)) = 1) : rx_met l X Y B 230 (d + 1) [fr 67, fc r] h (fun v h' => (∃ z, v = some (fc z) ∧ z < 4294967296 ∧ 2147483648 ≤ fx_b z ∧ fx_b z ≤ 2147483657) ∧ ai_inv ai_T0 h' ∧ ai_fr ([], [95]) h h') := by
  refine ru_met (M := fm_230) rfl rfl (by simp [fm_230]) ?_
  have hu := hu_230
  obtain ⟨s1, s2, s3, s4⟩ := hP b r hb hr hlook
  refine w_c he hu rfl rfl rfl rfl ?_
  refine w_st he hu rfl rfl rfl rfl ?_
  refine w_ld he hu rfl rfl rfl rfl rfl ?_
  refine w_gr 274457 84 he hu hI rfl rfl rfl rfl ?_
  refine w_c he hu rfl rfl rfl rfl ?_
  refine w_ld he hu rfl rfl rfl rfl rfl ?_
  refine w_gi 274469 he hu hI rfl rfl rfl rfl ?_
  refine w_bin hu rfl rfl (fun q => by omega) ?_
  refine w_ld he hu rfl rfl rfl rfl rfl ?_
  refine w_bin hu rfl rfl (fun q => by omega) ?_
  rw [hbk, rop_mul (by omega), rop_add (by omega)]
  refine w_ald he hu hI rfl rfl rfl rfl (by omega) ?_
  refine w_st he hu rfl rfl rfl rfl ?_
  refine ru_sub [(3, fc (gv h (84 * 4096 + (2 * b + r)))), (2, fc 0), (1, fc r), (0, fr 67)] ⟨rfl, rfl, rfl, rfl, trivial⟩ ?_
  refine cm_loop he hb hr (E := gv h (85 * 4096 + (2 * b + r))) (by omega) (fun h1 c n i1 i2 i3 i4 i5 => cm_asked he hb i1 i2 i3 i4 i5) (fun h1 c x y i1 i2 i3 i4 => cm_two he i1 i2 i3 i4) (gv h (85 * 4096 + (2 * b + r)) - gv h (84 * 4096 + (2 * b + r))) _ 0 h (by omega) hI hbk hcol rfl s4 (by decide) (fun h' i1 i2 => ?_)
  obtain ⟨qx, -, qx2, -⟩ := gv_arr (r := 95) (i := 0) i1 rfl (by decide) (by decide) (by decide)
  refine w_ld he hu rfl rfl rfl rfl rfl ?_
  refine w_gr 274468 95 he hu i1 rfl rfl rfl rfl ?_
  refine w_c he hu rfl rfl rfl rfl ?_
  refine w_ald he hu i1 rfl rfl rfl rfl (by decide) ?_
  obtain ⟨z, hz⟩ : ∃ z, gv h' (95 * 4096 + 0) = z := ⟨_, rfl⟩
  rw [hz] at qx2 ⊢
  have fin : ∀ y, y < 4294967296 → 2147483648 ≤ fx_b y → fx_b y ≤ 2147483657 → ru l X Y B (d + 1) fm_230.1 178 [(0, fr 67)] [fc y] h' (fun v h' => (∃ z, v = some (fc z) ∧ z < 4294967296 ∧ 2147483648 ≤ fx_b z ∧ fx_b z ≤ 2147483657) ∧ ai_inv ai_T0 h' ∧ ai_fr ([], [95]) h h') := fun y y1 y2 y3 => w_iret he hu rfl rfl ⟨⟨y, rfl, y1, y2, y3⟩, i1, i2⟩
  refine w_cmp0 he hu rfl rfl rfl (ru_ne rfl) (fun c1 => ?_) (fun c1 => ?_)
  · rw [ai_con3] at c1
    have c1 := fx_ble c1
    refine w_ld he hu rfl rfl rfl rfl rfl ?_
    refine w_gr 274468 95 he hu i1 rfl rfl rfl rfl ?_
    refine w_c he hu rfl rfl rfl rfl ?_
    refine w_ald he hu i1 rfl rfl rfl rfl (by decide) ?_
    rw [hz]
    refine w_c he hu rfl rfl rfl rfl ?_
    refine w_cmp he hu rfl rfl rfl (ru_ne rfl) (fun c2 => ?_) (fun c2 => ?_)
    · rw [ai_con5, rb_small (x := 9) (by decide)] at c2
      have c2 := fx_ble c2
      refine w_ld he hu rfl rfl rfl rfl rfl ?_
      refine w_gr 274468 95 he hu i1 rfl rfl rfl rfl ?_
      refine w_c he hu rfl rfl rfl rfl ?_
      refine w_ald he hu i1 rfl rfl rfl rfl (by decide) ?_
      rw [hz]
      exact fin z qx2 c1 c2
    · refine w_c he hu rfl rfl rfl rfl ?_
      refine w_go he hu rfl (ru_ne rfl) ?_
      exact fin 9 (by decide) (by decide) (by decide)
  · refine w_c he hu rfl rfl rfl rfl ?_
    refine w_go he hu rfl (ru_ne rfl) ?_
    exact fin 0 (by decide) (by decide) (by decide)
end CP
theorem ic_cm {l : Launch} {X : fx_X} {Y : fx_Y} {B : fx_B} (he : ai_env X B) {b r : Nat} (hb : b < 2) (hr : r < 2) {I : ai_I} (h1 : I.1.1 = [.inr (fr 67), .inl (r + 2147483648, r + 2147483648)]) (hbk : (274469, .inl (b + 2147483648, b + 2147483648)) ∈ I.1.2) (hlk : (86 * 4096 + (2 * b + r), .inl (2147483649, 2147483649)) ∈ I.1.2) (hcol : b = 1 → (286721, .inl (2147483649, 2147483652)) ∈ I.1.2) (hp : I.2 = ((some (.inl (2147483648, 2147483657)), []), (([], [95]), 4))) : ai_con l X Y B ai_T0 mo_P 230 I := by
  intro ws h g1 g2 hI hP
  rw [h1] at g1
  have num : ∀ {p lo hi : Nat}, (p, .inl (lo + 2147483648, hi + 2147483648)) ∈ I.1.2 → hi < 2147483648 → lo ≤ gv h p ∧ gv h p ≤ hi := fun {p lo hi} hm hh => by
    obtain ⟨w, e1, n, e2, e3, e4, e5⟩ := g2 _ hm
    subst e2
    have e6 : gv h p = n := by
      unfold gv
      rw [show ai_pl h p = some (fc n) from e1]
    rw [e6]
    have e7 : fx_b n = (n + 2147483648) % 4294967296 := rfl
    omega
  rcases ws with _ | ⟨w, _ | ⟨w2, _ | ⟨w3, ws⟩⟩⟩
  · exact g1.elim
  · exact g1.2.elim
  · obtain ⟨hw, ⟨n, rfl, n1, n2, n3⟩, -⟩ := g1
    have hw : w = fr 67 := hw
    subst hw
    have en : fx_b n = (n + 2147483648) % 4294967296 := rfl
    have : n = r := by omega
    subst this
    have b1 := num hbk (by omega)
    have l1 := num (lo := 1) (hi := 1) hlk (by decide)
    have key := cm_met (l := l) (Y := Y) (d := 3) he hb hr hI hP (by omega) (fun q => (num (lo := 1) (hi := 4) (hcol q) (by decide)).1) (by omega)
    rw [hp]
    refine rx_met_mono key (fun v h' q => ?_)
    obtain ⟨⟨z, rfl, z1, z2, z3⟩, i1, i2⟩ := q
    exact ⟨⟨z, rfl, z1, z2, z3⟩, fun q hq => (by cases hq), i1, i2, mo_P_fr (by decide) _ _ hP i2⟩
  · exact g1.2.2.elim
theorem ic_h_comes_0_b0 {l : Launch} {X : fx_X} {Y : fx_Y} {B : fx_B} (he : ai_env X B) : ai_con l X Y B ai_T0 mo_P 230 ii_h_comes_0_b0 := ic_cm he (b := 0) (r := 0) (by decide) (by decide) rfl (List.mem_of_getElem? (i := 0) rfl) (List.mem_of_getElem? (i := 1) rfl) (fun q => by cases q) rfl
theorem ic_h_comes_1_b0 {l : Launch} {X : fx_X} {Y : fx_Y} {B : fx_B} (he : ai_env X B) : ai_con l X Y B ai_T0 mo_P 230 ii_h_comes_1_b0 := ic_cm he (b := 0) (r := 1) (by decide) (by decide) rfl (List.mem_of_getElem? (i := 0) rfl) (List.mem_of_getElem? (i := 1) rfl) (fun q => by cases q) rfl
theorem ic_h_comes_0_b1 {l : Launch} {X : fx_X} {Y : fx_Y} {B : fx_B} (he : ai_env X B) : ai_con l X Y B ai_T0 mo_P 230 ii_h_comes_0_b1 := ic_cm he (b := 1) (r := 0) (by decide) (by decide) rfl (List.mem_of_getElem? (i := 0) rfl) (List.mem_of_getElem? (i := 2) rfl) (fun _ => List.mem_of_getElem? (i := 1) rfl) rfl
theorem ic_h_comes_1_b1 {l : Launch} {X : fx_X} {Y : fx_Y} {B : fx_B} (he : ai_env X B) : ai_con l X Y B ai_T0 mo_P 230 ii_h_comes_1_b1 := ic_cm he (b := 1) (r := 1) (by decide) (by decide) rfl (List.mem_of_getElem? (i := 0) rfl) (List.mem_of_getElem? (i := 2) rfl) (fun _ => List.mem_of_getElem? (i := 1) rfl) rfl
