theorem hu_151 : ru_u fm_151.1 = true := by decide +kernel
theorem hu_161 : ru_u fm_161.1 = true := by decide +kernel
/-- rows of 17: faces first -/
theorem mo_row {r len : Nat} {h : fx_H} (hI : ai_inv ai_T0 h) (hc : ai_cell ai_T0 r = some (.inr (0, len, [(2147483648, 2147483657), (2147483648, 2147483657), (2147483648, 2147483657), (2147483648, 2147483657), (2147483648, 2147483657), (2147483648, 2147483657), (2147483648, 2147483657), (0, 4294967295), (0, 4294967295), (0, 4294967295), (0, 4294967295), (0, 4294967295), (0, 4294967295), (0, 4294967295), (0, 4294967295), (0, 4294967295), (0, 4294967295)]))) (h4 : len < 4096) {i : Nat} (hi : i < len) {j : Nat} (hj : j % 17 = i % 17) : ∃ q, ([(2147483648, 2147483657), (2147483648, 2147483657), (2147483648, 2147483657), (2147483648, 2147483657), (2147483648, 2147483657), (2147483648, 2147483657), (2147483648, 2147483657), (0, 4294967295), (0, 4294967295), (0, 4294967295), (0, 4294967295), (0, 4294967295), (0, 4294967295), (0, 4294967295), (0, 4294967295), (0, 4294967295), (0, 4294967295)] : List (Nat × Nat))[j % 17]? = some q ∧ gv h (r * 4096 + i) < 4294967296 ∧ q.1 ≤ fx_b (gv h (r * 4096 + i)) ∧ fx_b (gv h (r * 4096 + i)) ≤ q.2 := by
  obtain ⟨q, h1, h2, h3, h5, -⟩ := gv_arr hI hc (by decide) h4 hi
  refine ⟨q, ?_, h2, h3, h5⟩
  rw [hj]
  exact h1
/-- comparisons of small numbers -/
theorem rc_ge {x y : Nat} (hx : x < 2147483648) (hy : y < 2147483648) : fx_con 3 (fx_b x) (fx_b y) = Nat.ble y x := by
  rw [ai_con3, rb_small hx, rb_small hy]
  cases hb : Nat.ble y x with
  | true => exact rx_ble (by have := fx_ble hb; omega)
  | false =>
    cases hc : Nat.ble (y + 2147483648) (x + 2147483648) with
    | true => have := fx_ble hc; have := fx_nle hb; omega
    | false => rfl
theorem rc_ne {x y : Nat} (hx : x < 2147483648) (hy : y < 2147483648) : fx_con 1 (fx_b x) (fx_b y) = !(Nat.beq x y) := by
  rw [ai_con1, rb_small hx, rb_small hy]
  cases hb : Nat.beq x y with
  | true => rw [fx_beq hb, Nat.beq_refl]
  | false =>
    cases hc : Nat.beq (x + 2147483648) (y + 2147483648) with
    | true => have := fx_beq hc; have := fx_bnq hb; omega
    | false => rfl
theorem rm_inc {x : Nat} (h : x + 1 < 4294967296) : Nat.mod (Nat.add x 1) 4294967296 = x + 1 := Nat.mod_eq_of_lt h
section KA
variable {l : Launch} {X : fx_X} {Y : fx_Y} {B : fx_B} {K : rx_K} {d : Nat}
/-- the act's row is laid down: from k on -/
theorem ka_second (he : ai_env X B) : ∀ n k h, n + k = 17 → ai_inv ai_T0 h → gv h 274485 ≤ 39 → (∀ h', ai_inv ai_T0 h' → ai_fr ([], [98]) h h' → ru l X Y B d fm_151.1 83 [(0, fr 67)] [] h' K) → ru l X Y B d fm_151.1 51 [(1, fc k), (0, fr 67)] [] h K := by
  have hu := hu_151
  intro n
  induction n with
  | zero =>
    intro k h hk hI ha kk
    refine w_ld he hu rfl rfl rfl rfl rfl ?_
    refine w_c he hu rfl rfl rfl rfl ?_
    refine w_cmp he hu rfl rfl rfl (ru_ne rfl) (fun c1 => ?_) (fun c1 => ?_)
    · exact ru_sub [(0, fr 67)] ⟨rfl, trivial⟩ (kk h hI ai_fr_refl)
    · rw [rc_ge (by omega) (by omega)] at c1
      have := fx_nle c1
      omega
  | succ n ih =>
    intro k h hk hI ha kk
    refine w_ld he hu rfl rfl rfl rfl rfl ?_
    refine w_c he hu rfl rfl rfl rfl ?_
    refine w_cmp he hu rfl rfl rfl (ru_ne rfl) (fun c1 => ?_) (fun c1 => ?_)
    · rw [rc_ge (by omega) (by omega)] at c1
      have := fx_ble c1
      omega
    · refine w_ld he hu rfl rfl rfl rfl rfl ?_
      refine w_gr 274484 98 he hu hI rfl rfl rfl rfl ?_
      refine w_c he hu rfl rfl rfl rfl ?_
      refine w_ld he hu rfl rfl rfl rfl rfl ?_
      refine w_gi 274485 he hu hI rfl rfl rfl rfl ?_
      refine w_bin hu rfl rfl (fun q => by omega) ?_
      refine w_ld he hu rfl rfl rfl rfl rfl ?_
      refine w_bin hu rfl rfl (fun q => by omega) ?_
      refine w_ld he hu rfl rfl rfl rfl rfl ?_
      refine w_gr 274482 96 he hu hI rfl rfl rfl rfl ?_
      refine w_ld he hu rfl rfl rfl rfl rfl ?_
      refine w_ald he hu hI rfl rfl rfl rfl (by omega) ?_
      rw [rop_mul (by omega), rop_add (by omega)]
      obtain ⟨q, q1, q2, q3, q4⟩ := mo_row (r := 96) (len := 17) hI rfl (by decide) (i := k) (by omega) (j := 17 * gv h 274485 + k) (by omega)
      refine w_ast he hu hI rfl rfl rfl rfl (by omega) q1 q2 q3 q4 (fun h1 u1 hI1 => ?_)
      refine w_inc he hu rfl rfl rfl ?_
      rw [rm_inc (by omega)]
      refine w_go he hu rfl (ru_ne rfl) ?_
      have f1 : ai_fr ([], [98]) h h1 := u1.fr (Or.inr (by rw [show (98 * 4096 + (17 * gv h 274485 + k)) / 4096 = 98 by omega]; rfl))
      refine ih (k + 1) h1 (by omega) hI1 ?_ (fun h' i1 i2 => kk h' i1 (ai_fr_trans f1 i2))
      rw [u1.off (by omega)]
      exact ha
/-- the first row goes -/
theorem ka_first (he : ai_env X B) : ∀ n k h, n + k = 680 → ai_inv ai_T0 h → (∀ h', ai_inv ai_T0 h' → ai_fr ([], [98]) h h' → ru l X Y B d fm_151.1 39 [(0, fr 67)] [] h' K) → ru l X Y B d fm_151.1 11 [(1, fc k), (0, fr 67)] [] h K := by
  have hu := hu_151
  intro n
  induction n with
  | zero =>
    intro k h hk hI kk
    refine w_ld he hu rfl rfl rfl rfl rfl ?_
    refine w_c he hu rfl rfl rfl rfl ?_
    refine w_cmp he hu rfl rfl rfl (ru_ne rfl) (fun c1 => ?_) (fun c1 => ?_)
    · exact ru_sub [(0, fr 67)] ⟨rfl, trivial⟩ (kk h hI ai_fr_refl)
    · rw [rc_ge (by omega) (by omega)] at c1
      have := fx_nle c1
      omega
  | succ n ih =>
    intro k h hk hI kk
    refine w_ld he hu rfl rfl rfl rfl rfl ?_
    refine w_c he hu rfl rfl rfl rfl ?_
    refine w_cmp he hu rfl rfl rfl (ru_ne rfl) (fun c1 => ?_) (fun c1 => ?_)
    · rw [rc_ge (by omega) (by omega)] at c1
      have := fx_ble c1
      omega
    · refine w_ld he hu rfl rfl rfl rfl rfl ?_
      refine w_gr 274484 98 he hu hI rfl rfl rfl rfl ?_
      refine w_ld he hu rfl rfl rfl rfl rfl ?_
      refine w_ld he hu rfl rfl rfl rfl rfl ?_
      refine w_gr 274484 98 he hu hI rfl rfl rfl rfl ?_
      refine w_ld he hu rfl rfl rfl rfl rfl ?_
      refine w_c he hu rfl rfl rfl rfl ?_
      refine w_bin hu rfl rfl (fun q => by omega) ?_
      rw [rop_add (by omega)]
      refine w_ald he hu hI rfl rfl rfl rfl (by omega) ?_
      obtain ⟨q, q1, q2, q3, q4⟩ := mo_row (r := 98) (len := 697) hI rfl (by decide) (i := k + 17) (by omega) (j := k) (by omega)
      refine w_ast he hu hI rfl rfl rfl rfl (by omega) q1 q2 q3 q4 (fun h1 u1 hI1 => ?_)
      refine w_inc he hu rfl rfl rfl ?_
      rw [rm_inc (by omega)]
      refine w_go he hu rfl (ru_ne rfl) ?_
      have f1 : ai_fr ([], [98]) h h1 := u1.fr (Or.inr (by rw [show (98 * 4096 + k) / 4096 = 98 by omega]; rfl))
      exact ih (k + 1) h1 (by omega) hI1 (fun h' i1 i2 => kk h' i1 (ai_fr_trans f1 i2))
/-- acts and undone at the end -/
theorem ka_third (he : ai_env X B) {h : fx_H} (hI : ai_inv ai_T0 h) (ha : gv h 274485 ≤ 39) (kk : ∀ h', ai_inv ai_T0 h' → gv h' 274485 = gv h 274485 + 1 → gv h' 274486 = 0 → ai_fr ([274485, 274486], []) h h' → K none h') : ru l X Y B d fm_151.1 83 [(0, fr 67)] [] h K := by
  have hu := hu_151
  refine w_ld he hu rfl rfl rfl rfl rfl ?_
  refine w_dup he hu rfl rfl rfl ?_
  refine w_gi 274485 he hu hI rfl rfl rfl rfl ?_
  refine w_c he hu rfl rfl rfl rfl ?_
  refine w_bin hu rfl rfl (fun q => by omega) ?_
  rw [rop_add (by omega)]
  have e1 := rb_small (x := gv h 274485 + 1) (by omega)
  refine w_pi 274485 he hu hI rfl rfl rfl rfl (by omega) (by omega) (by omega) (fun h1 u1 hI1 => ?_)
  refine w_ld he hu rfl rfl rfl rfl rfl ?_
  refine w_c he hu rfl rfl rfl rfl ?_
  refine w_pi 274486 he hu hI1 rfl rfl rfl rfl (by decide) (by decide) (by decide) (fun h2 u2 hI2 => ?_)
  refine w_vret he hu rfl ?_
  refine kk h2 hI2 (by rw [u2.off (by decide), u1.at]) u2.at (ai_fr_trans (u1.fr (Or.inl rfl)) (u2.fr (Or.inl rfl)))
end KA
theorem mo_iv {h : fx_H} {p : Nat} (lo hi : Nat) (hI : ai_inv ai_T0 h) {a b : Nat} (e : ai_tab ai_T0 p = some (.inr (.inl (a, b)))) (h1 : lo ≤ gv h p) (h2 : gv h p ≤ hi) (h3 : hi < 2147483648) : ai_at h (p, .inl (lo + 2147483648, hi + 2147483648)) := by
  have e2 := rb_small (x := gv h p) (by omega)
  exact ⟨_, (gv_int hI e).1, _, rfl, by omega, by omega, by omega⟩
theorem ai_fr_of {m m2 : ai_M} {h h' : fx_H} (h1 : ai_fr m h h') (g : (m.1.all (ai_mem m2.1) && m.2.all (ai_mem m2.2)) = true) : ai_fr m2 h h' := by
  obtain ⟨g1, g2⟩ := fx_and g
  exact ai_fr_sub h1 (List.all_eq_true.mp g1) (List.all_eq_true.mp g2)
theorem ic_h_keepAct {l : Launch} {X : fx_X} {Y : fx_Y} {B : fx_B} (he : ai_env X B) : ai_con l X Y B ai_T0 mo_P 151 ii_h_keepAct := by
  intro ws h h1 h2 hI hP
  have h1 : ai_as [.inr (fr 67)] ws := h1
  rcases ws with _ | ⟨w, _ | ⟨w2, ws⟩⟩
  · exact h1.elim
  · obtain ⟨hw, -⟩ := h1
    have hw : w = fr 67 := hw
    subst hw
    refine ru_met (M := fm_151) rfl rfl (by simp [fm_151]) ?_
    have hu := hu_151
    obtain ⟨-, a1, a2⟩ := gv_nat (p := 274485) (lo := 0) (hi := 40) hI rfl (by decide)
    have fin : ∀ h', ai_inv ai_T0 h' → gv h' 274485 ≤ 40 → 1 ≤ gv h' 274485 → gv h' 274486 = 0 → ai_fr ([274485, 274486], [98]) h h' → ai_res ii_h_keepAct.2.1.1 none ∧ (∀ q ∈ ii_h_keepAct.2.1.2, ai_at h' q) ∧ ai_inv ai_T0 h' ∧ ai_fr ii_h_keepAct.2.2.1 h h' ∧ mo_P h' := fun h' i1 i2 i3 i4 i5 => by
      refine ⟨trivial, fun q hq => ?_, i1, i5, mo_P_fr (by decide) _ _ hP i5⟩
      have hq : q ∈ [((274485, .inl (2147483649, 2147483688)) : Nat × ai_S), (274486, .inl (2147483648, 2147483648))] := hq
      rcases List.mem_cons.mp hq with rfl | hq
      · exact mo_iv 1 40 i1 rfl i3 i2 (by decide)
      · rcases List.mem_cons.mp hq with rfl | hq
        · exact mo_iv 0 0 i1 rfl (by omega) (by omega) (by decide)
        · cases hq
    refine w_ld he hu rfl rfl rfl rfl rfl ?_
    refine w_gi 274485 he hu hI rfl rfl rfl rfl ?_
    refine w_c he hu rfl rfl rfl rfl ?_
    refine w_cmp he hu rfl rfl rfl (ru_ne rfl) (fun c1 => ?_) (fun c1 => ?_)
    · rw [rc_ne (by omega) (by omega)] at c1
      have c1 : gv h 274485 ≠ 40 := fun q => by
        rw [q] at c1
        cases c1
      refine w_c he hu rfl rfl rfl rfl ?_
      refine w_st he hu rfl rfl rfl rfl ?_
      refine ka_second he 17 0 h rfl hI (by omega) (fun h' i1 i2 => ?_)
      have e1 : gv h' 274485 = gv h 274485 := gv_fr (i2 _ rfl rfl)
      refine ka_third he i1 (by omega) (fun h2 j1 j2 j3 j4 => fin h2 j1 (by omega) (by omega) j3 (ai_fr_trans (ai_fr_of i2 (by decide)) (ai_fr_of j4 (by decide))))
    · rw [rc_ne (by omega) (by omega)] at c1
      have c1 : gv h 274485 = 40 := by
        cases hb : Nat.beq (gv h 274485) 40 with
        | true => exact fx_beq hb
        | false => rw [hb] at c1; cases c1
      refine w_c he hu rfl rfl rfl rfl ?_
      refine w_st he hu rfl rfl rfl rfl ?_
      refine ka_first he 680 0 h rfl hI (fun h1 i1 i2 => ?_)
      have e1 : gv h1 274485 = gv h 274485 := gv_fr (i2 _ rfl rfl)
      refine w_ld he hu rfl rfl rfl rfl rfl ?_
      refine w_dup he hu rfl rfl rfl ?_
      refine w_gi 274485 he hu i1 rfl rfl rfl rfl ?_
      refine w_c he hu rfl rfl rfl rfl ?_
      refine w_bin hu rfl rfl (fun q => by omega) ?_
      rw [rop_sub (by omega) (by omega), e1, c1]
      refine w_pi 274485 he hu i1 rfl rfl rfl rfl (by decide) (by decide) (by decide) (fun h2 u2 i3 => ?_)
      refine w_c he hu rfl rfl rfl rfl ?_
      refine w_st he hu rfl rfl rfl rfl ?_
      have e2 : gv h2 274485 = 39 := u2.at
      refine ka_second he 17 0 h2 rfl i3 (by omega) (fun h' i4 i5 => ?_)
      have e3 : gv h' 274485 = gv h2 274485 := gv_fr (i5 _ rfl rfl)
      refine ka_third he i4 (by omega) (fun h4 j1 j2 j3 j4 => fin h4 j1 (by omega) (by omega) j3 (ai_fr_trans (ai_fr_of i2 (by decide)) (ai_fr_trans (u2.fr (Or.inl rfl)) (ai_fr_trans (ai_fr_of i5 (by decide)) (ai_fr_of j4 (by decide))))))
  · exact h1.2.elim
