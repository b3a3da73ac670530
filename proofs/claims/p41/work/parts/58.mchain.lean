theorem hu_136 : ru_u fm_136.1 = true := by decide +kernel
theorem hu_130 : ru_u fm_130.1 = true := by decide +kernel
theorem hu_66 : ru_u fm_66.1 = true := by decide +kernel
theorem ch_pig : ∀ (n : Nat) (L : List Nat), (∀ j, j < n → j ∈ L) → n ≤ L.length := by
  intro n
  induction n with
  | zero => intro L _; exact Nat.zero_le _
  | succ n ih =>
    intro L h
    have hn : n ∈ L := h n (Nat.lt_succ_self n)
    have h1 := ih (L.erase n) (fun j hj => (List.mem_erase_of_ne (by omega)).mpr (h j (by omega)))
    rw [List.length_erase_of_mem hn] at h1
    have h2 : 0 < L.length := List.length_pos_of_mem hn
    omega
/-- nobody is farther than six -/
theorem ch_far {h : fx_H} {to m : Nat} (h7 : mo_n h ≤ 7) (hi : lf_inv h to) (hto : to < 7) (hm : m < 7) (h1 : gv h (99 * 4096 + m) ≠ 100) : gv h (99 * 4096 + m) ≤ 6 := by
  have down : ∀ v x, x < 7 → gv h (99 * 4096 + x) = v → v ≠ 100 → ∀ j, j ≤ v → ∃ y, y < 7 ∧ gv h (99 * 4096 + y) = j := by
    intro v
    induction v with
    | zero => intro x hx e _ j hj; exact ⟨x, hx, by omega⟩
    | succ v ih =>
      intro x hx e hv j hj
      by_cases hq : j = v + 1
      · exact ⟨x, hx, by omega⟩
      · obtain ⟨-, -, k3⟩ := hi.2 x hx
        obtain ⟨o, o1, -, o3⟩ := k3 (by omega) (by omega)
        have ho : gv h (99 * 4096 + o) = v := by omega
        have hle := (hi.2 x hx).1
        exact ih o (by omega) ho (by omega) j (by omega)
  have all : ∀ j, j < gv h (99 * 4096 + m) + 1 → j ∈ [gv h (99 * 4096 + 0), gv h (99 * 4096 + 1), gv h (99 * 4096 + 2), gv h (99 * 4096 + 3), gv h (99 * 4096 + 4), gv h (99 * 4096 + 5), gv h (99 * 4096 + 6)] := fun j hj => by
    obtain ⟨y, y1, y2⟩ := down _ m hm rfl h1 j (by omega)
    rw [← y2]
    rcases (by omega : y = 0 ∨ y = 1 ∨ y = 2 ∨ y = 3 ∨ y = 4 ∨ y = 5 ∨ y = 6) with rfl | rfl | rfl | rfl | rfl | rfl | rfl <;> simp
  have := ch_pig _ _ all
  simp only [List.length_cons, List.length_nil] at this
  omega
section CH
variable {l : Launch} {X : fx_X} {Y : fx_Y} {B : fx_B} {K : rx_K} {d : Nat}
theorem in_met (he : ai_env X B) {h : fx_H} {x a b : Nat} : rx_met l X Y B 136 d [fc x, fc a, fc b] h (fun v h' => h' = h ∧ ((v = some (fc 1) ∧ fx_b a ≤ fx_b x ∧ fx_b x ≤ fx_b b) ∨ (v = some (fc 0) ∧ ¬ (fx_b a ≤ fx_b x ∧ fx_b x ≤ fx_b b)))) := by
  refine ru_met (M := fm_136) rfl rfl (by simp [fm_136]) ?_
  have hu := hu_136
  refine w_ld he hu rfl rfl rfl rfl rfl ?_
  refine w_ld he hu rfl rfl rfl rfl rfl ?_
  refine w_cmp he hu rfl rfl rfl (ru_ne rfl) (fun c1 => ?_) (fun c1 => ?_)
  · rw [ai_con2] at c1
    have c1 := fx_blt c1
    refine w_c he hu rfl rfl rfl rfl ?_
    exact w_iret he hu rfl rfl ⟨rfl, Or.inr ⟨rfl, by omega⟩⟩
  rw [ai_con2] at c1
  have c1 := fx_nlt c1
  refine w_ld he hu rfl rfl rfl rfl rfl ?_
  refine w_ld he hu rfl rfl rfl rfl rfl ?_
  refine w_cmp he hu rfl rfl rfl (ru_ne rfl) (fun c2 => ?_) (fun c2 => ?_)
  · rw [ai_con4] at c2
    have c2 := fx_blt c2
    refine w_c he hu rfl rfl rfl rfl ?_
    exact w_iret he hu rfl rfl ⟨rfl, Or.inr ⟨rfl, by omega⟩⟩
  · rw [ai_con4] at c2
    have c2 := fx_nlt c2
    refine w_c he hu rfl rfl rfl rfl ?_
    refine w_go he hu rfl (ru_ne rfl) ?_
    exact w_iret he hu rfl rfl ⟨rfl, Or.inl ⟨rfl, c1, c2⟩⟩
theorem im_met (he : ai_env X B) {h : fx_H} (hI : ai_inv ai_T0 h) {x : Nat} (hx : x < 4294967296) : rx_met l X Y B 130 (d + 1) [fr 67, fc x] h (fun v h' => h' = h ∧ ((v = some (fc 1) ∧ x < mo_n h) ∨ v = some (fc 0))) := by
  refine ru_met (M := fm_130) rfl rfl (by simp [fm_130]) ?_
  have hu := hu_130
  have h7 := (mo_n_le hI).2
  refine w_ld he hu rfl rfl rfl rfl rfl ?_
  refine w_c he hu rfl rfl rfl rfl ?_
  refine w_ld he hu rfl rfl rfl rfl rfl ?_
  refine w_callM he hu hI rfl rfl rfl rfl (ny_met he hI) (fun v h1 q => ?_)
  obtain ⟨rfl, rfl⟩ := q
  refine w_c he hu rfl rfl rfl rfl ?_
  refine w_bin hu rfl rfl (fun q => by omega) ?_
  refine w_callS he hu rfl rfl rfl rfl (in_met he) (fun v h2 q => ?_)
  obtain ⟨rfl, q⟩ := q
  rcases q with ⟨rfl, q1, q2⟩ | ⟨rfl, -⟩
  · refine w_iret he hu rfl rfl ⟨rfl, Or.inl ⟨rfl, ?_⟩⟩
    have ex : fx_b x = (x + 2147483648) % 4294967296 := rfl
    rw [rb_small (x := 0) (by decide)] at q1
    rcases Nat.eq_zero_or_pos (mo_n h2) with z | z
    · exfalso
      rw [z] at q2
      have e : rop 1 0 1 = 4294967295 := rop_of (by decide) (by decide)
      rw [e] at q2
      have : fx_b 4294967295 = 2147483647 := by decide
      omega
    · rw [rop_sub (by omega) (by omega), rb_small (x := mo_n h2 - 1) (by omega)] at q2
      omega
  · exact w_iret he hu rfl rfl ⟨rfl, Or.inr rfl⟩
/-- what the loops leave -/
def ch_ok (h h' : fx_H) : Prop := ai_inv ai_T0 h' ∧ ai_fr ([274489], [100]) h h'
theorem ch_keep {h h' : fx_H} {to : Nat} (hI : ai_inv ai_T0 h) (hf : ai_fr ([274489], [100]) h h') (hi : lf_inv h to) (hto : to < 7) : lf_inv h' to ∧ mo_n h' = mo_n h ∧ gv h' 274469 = gv h 274469 ∧ gv h' 286721 = gv h 286721 ∧ (∀ i, i < 7 → gv h' (99 * 4096 + i) = gv h (99 * 4096 + i)) ∧ ∀ m o, m < 7 → o < 7 → mo_ab h' m o = mo_ab h m o := by
  have e0 : gv h' 274469 = gv h 274469 := gv_fr (hf _ rfl rfl)
  have e1 : ∀ r i, i < 4096 → r ≠ 100 → r ≠ 67 → gv h' (r * 4096 + i) = gv h (r * 4096 + i) := fun r i hi hr h67 => gv_fr (hf _ (mo_mem_no (fun y hy e => by
    have : y = 274489 := by simpa using hy
    omega)) (mo_mem_no (fun y hy e => by
    have : y = 100 := by simpa using hy
    rw [ai_p1 hi] at e
    omega)))
  obtain ⟨hb, h7⟩ := mo_n_le hI
  have e2 : mo_n h' = mo_n h := by
    unfold mo_n
    rw [e0]
    exact e1 74 _ (by omega) (by decide) (by decide)
  have e3 : ∀ m o, m < 7 → o < 7 → mo_ab h' m o = mo_ab h m o := fun m o hm ho => by
    unfold mo_ab
    rw [e0, e1 96 (7 + m) (by omega) (by decide) (by decide), e1 96 (7 + o) (by omega) (by decide) (by decide), e1 70 (gv h 274469) (by omega) (by decide) (by decide)]
  have e4 : ∀ i, i < 7 → gv h' (99 * 4096 + i) = gv h (99 * 4096 + i) := fun i hi => e1 99 i (by omega) (by decide) (by decide)
  refine ⟨⟨by rw [e4 _ hto]; exact hi.1, fun m hm => ?_⟩, e2, e0, gv_fr (hf _ rfl rfl), e4, e3⟩
  rw [e4 m hm]
  obtain ⟨k1, k2, k3⟩ := hi.2 m hm
  refine ⟨k1, k2, fun q1 q2 => ?_⟩
  obtain ⟨o, o1, o2, o3⟩ := k3 q1 q2
  exact ⟨o, by rw [e2]; exact o1, by rw [e3 _ _ hm (by omega)]; exact o2, by rw [e4 o (by omega)]; exact o3⟩
/-- the next one nearer is found -/
theorem ch_in (he : ai_env X B) {to m k w : Nat} (hto : to < 7) (hk : k < 7) (hw : w < 7) {h : fx_H} (hI : ai_inv ai_T0 h) (hcol : gv h 274469 = 1 → 1 ≤ gv h 286721) (hi : lf_inv h to) (hf0 : gv h (99 * 4096 + k) ≠ 0) (hab : mo_ab h k w = 1) (hfw : gv h (99 * 4096 + w) + 1 = gv h (99 * 4096 + k)) (kk : ∀ x, x < 7 → gv h (99 * 4096 + x) + 1 = gv h (99 * 4096 + k) → ru l X Y B (d + 2) fm_66.1 121 [(4, fc x), (3, fc k), (2, fc to), (1, fc m), (0, fr 67)] [] h K) : ∀ c x, x + c = w → ru l X Y B (d + 2) fm_66.1 87 [(4, fc x), (3, fc k), (2, fc to), (1, fc m), (0, fr 67)] [] h K := by
  have hu := hu_66
  have hfk := (hi.2 k hk).1
  intro c
  induction c with
  | zero =>
    intro x hx
    have : x = w := by omega
    subst this
    refine w_ld he hu rfl rfl rfl rfl rfl ?_
    refine w_ld he hu rfl rfl rfl rfl rfl ?_
    refine w_ld he hu rfl rfl rfl rfl rfl ?_
    refine w_callM he hu hI rfl rfl rfl rfl (ab_met he hI hcol hk hw) (fun v h2 q => ?_)
    obtain ⟨rfl, rfl⟩ := q
    rw [hab]
    refine w_cmp0 he hu rfl rfl rfl (ru_ne rfl) (fun c4 => by cases c4) (fun c4 => ?_)
    refine w_ld he hu rfl rfl rfl rfl rfl ?_
    refine w_gr 274487 99 he hu hI rfl rfl rfl rfl ?_
    refine w_ld he hu rfl rfl rfl rfl rfl ?_
    refine w_ald he hu hI rfl rfl rfl rfl (by omega) ?_
    refine w_ld he hu rfl rfl rfl rfl rfl ?_
    refine w_gr 274487 99 he hu hI rfl rfl rfl rfl ?_
    refine w_ld he hu rfl rfl rfl rfl rfl ?_
    refine w_ald he hu hI rfl rfl rfl rfl (by omega) ?_
    refine w_c he hu rfl rfl rfl rfl ?_
    refine w_bin hu rfl rfl (fun q => by omega) ?_
    rw [rop_sub (by omega) (by omega), ← hfw, Nat.add_sub_cancel]
    refine w_cmp he hu rfl rfl rfl (ru_ne rfl) (fun c5 => kk x hw hfw) (fun c5 => ?_)
    rw [ai_con0, Nat.beq_refl] at c5
    cases c5
  | succ c ih =>
    intro x hx
    have next : ru l X Y B (d + 2) fm_66.1 115 [(4, fc x), (3, fc k), (2, fc to), (1, fc m), (0, fr 67)] [] h K := by
      refine w_inc he hu rfl rfl rfl ?_
      rw [rm_inc (by omega)]
      refine w_go he hu rfl (ru_ne rfl) ?_
      exact ih (x + 1) (by omega)
    refine w_ld he hu rfl rfl rfl rfl rfl ?_
    refine w_ld he hu rfl rfl rfl rfl rfl ?_
    refine w_ld he hu rfl rfl rfl rfl rfl ?_
    refine w_callM he hu hI rfl rfl rfl rfl (ab_met he hI hcol hk (by omega)) (fun v h2 q => ?_)
    obtain ⟨rfl, rfl⟩ := q
    refine w_cmp0 he hu rfl rfl rfl (ru_ne rfl) (fun c4 => next) (fun c4 => ?_)
    have hfx := (hi.2 x (by omega)).1
    refine w_ld he hu rfl rfl rfl rfl rfl ?_
    refine w_gr 274487 99 he hu hI rfl rfl rfl rfl ?_
    refine w_ld he hu rfl rfl rfl rfl rfl ?_
    refine w_ald he hu hI rfl rfl rfl rfl (by omega) ?_
    refine w_ld he hu rfl rfl rfl rfl rfl ?_
    refine w_gr 274487 99 he hu hI rfl rfl rfl rfl ?_
    refine w_ld he hu rfl rfl rfl rfl rfl ?_
    refine w_ald he hu hI rfl rfl rfl rfl (by omega) ?_
    refine w_c he hu rfl rfl rfl rfl ?_
    refine w_bin hu rfl rfl (fun q => by omega) ?_
    rw [rop_sub (by omega) (by omega)]
    refine w_cmp he hu rfl rfl rfl (ru_ne rfl) (fun c5 => kk x (by omega) ?_) (fun c5 => next)
    rw [ai_con0, rb_small (by omega), rb_small (by omega)] at c5
    have := fx_beq c5
    omega
/-- one after the other, nearer and nearer -/
theorem ch_out (he : ai_env X B) {to m : Nat} (hto : to < 7) : ∀ v k h, gv h (99 * 4096 + k) = v → k < 7 → ai_inv ai_T0 h → (gv h 274469 = 1 → 1 ≤ gv h 286721) → lf_inv h to → v ≤ 6 → gv h 274489 + v ≤ 7 → 1 ≤ gv h 274489 → (∀ h' z, ch_ok h h' → z < 4294967296 → K (some (fc z)) h') → ru l X Y B (d + 2) fm_66.1 79 [(3, fc k), (2, fc to), (1, fc m), (0, fr 67)] [] h K := by
  have hu := hu_66
  intro v
  induction v with
  | zero =>
    intro k h hv hk hI hcol hi hv6 hl hl1 kk
    have hkt := (hi.2 k hk).2.1 hv
    refine w_ld he hu rfl rfl rfl rfl rfl ?_
    refine w_ld he hu rfl rfl rfl rfl rfl ?_
    refine w_cmp he hu rfl rfl rfl (ru_ne rfl) (fun c1 => ?_) (fun c1 => ?_)
    · refine w_ld he hu rfl rfl rfl rfl rfl ?_
      refine w_gi 274489 he hu hI rfl rfl rfl rfl ?_
      refine w_c he hu rfl rfl rfl rfl ?_
      refine w_bin hu rfl rfl (fun q => by omega) ?_
      exact w_iret he hu rfl rfl (kk h _ ⟨hI, ai_fr_refl⟩ (rop_lt _ _ _))
    · rw [hkt, ai_con0, Nat.beq_refl] at c1
      cases c1
  | succ v ih =>
    intro k h hv hk hI hcol hi hv6 hl hl1 kk
    refine w_ld he hu rfl rfl rfl rfl rfl ?_
    refine w_ld he hu rfl rfl rfl rfl rfl ?_
    refine w_cmp he hu rfl rfl rfl (ru_ne rfl) (fun c1 => ?_) (fun c1 => ?_)
    · refine w_ld he hu rfl rfl rfl rfl rfl ?_
      refine w_gi 274489 he hu hI rfl rfl rfl rfl ?_
      refine w_c he hu rfl rfl rfl rfl ?_
      refine w_bin hu rfl rfl (fun q => by omega) ?_
      exact w_iret he hu rfl rfl (kk h _ ⟨hI, ai_fr_refl⟩ (rop_lt _ _ _))
    refine w_c he hu rfl rfl rfl rfl ?_
    refine w_st he hu rfl rfl rfl rfl ?_
    have h7 := (mo_n_le hI).2
    obtain ⟨w, w1, w2, w3⟩ := (hi.2 k hk).2.2 (by omega) (by omega)
    refine ch_in he hto hk (w := w) (by omega) hI hcol hi (by omega) w2 w3 (fun x x1 x2 => ?_) w 0 (by omega)
    refine w_ld he hu rfl rfl rfl rfl rfl ?_
    refine w_st he hu rfl rfl rfl rfl ?_
    refine w_ld he hu rfl rfl rfl rfl rfl ?_
    refine w_gr 274488 100 he hu hI rfl rfl rfl rfl ?_
    refine w_ld he hu rfl rfl rfl rfl rfl ?_
    refine w_gi 274489 he hu hI rfl rfl rfl rfl ?_
    refine w_ld he hu rfl rfl rfl rfl rfl ?_
    have ex := rb_small (x := x) (by omega)
    refine w_ast he hu hI rfl rfl rfl rfl (by omega) (by rw [show gv h 274489 % ([(2147483648, 2147483654)] : List (Nat × Nat)).length = 0 by show gv h 274489 % 1 = 0; omega]; rfl) (by omega) (by omega) (by omega) (fun h1 u1 hI1 => ?_)
    have f1 : ai_fr ([274489], [100]) h h1 := u1.fr (Or.inr (by rw [ai_p1 (by omega)]; rfl))
    have e1 : gv h1 274489 = gv h 274489 := u1.off (by omega)
    refine w_ld he hu rfl rfl rfl rfl rfl ?_
    refine w_dup he hu rfl rfl rfl ?_
    refine w_gi 274489 he hu hI1 rfl rfl rfl rfl ?_
    refine w_c he hu rfl rfl rfl rfl ?_
    refine w_bin hu rfl rfl (fun q => by omega) ?_
    rw [rop_add (by omega), e1]
    have el := rb_small (x := gv h 274489 + 1) (by omega)
    refine w_pi 274489 he hu hI1 rfl rfl rfl rfl (by omega) (by omega) (by omega) (fun h2 u2 hI2 => ?_)
    have f2 : ai_fr ([274489], [100]) h h2 := ai_fr_trans f1 (u2.fr (Or.inl rfl))
    refine w_go he hu rfl (ru_ne rfl) ?_
    obtain ⟨g1, g2, g3, g4, g5, g6⟩ := ch_keep hI f2 hi hto
    have e2 : gv h2 274489 = gv h 274489 + 1 := u2.at
    refine ru_sub [(3, fc x), (2, fc to), (1, fc m), (0, fr 67)] ⟨rfl, rfl, rfl, rfl, trivial⟩ ?_
    exact ih x h2 (by rw [g5 x x1]; omega) x1 hI2 (by rw [g3, g4]; exact hcol) g1 (by omega) (by omega) (by omega) (fun h' z q1 q2 => kk h' z ⟨q1.1, ai_fr_trans f2 q1.2⟩ q2)
end CH
theorem ch_met {l : Launch} {X : fx_X} {Y : fx_Y} {B : fx_B} {d : Nat} (he : ai_env X B) {h : fx_H} (hI : ai_inv ai_T0 h) (hcol : gv h 274469 = 1 → 1 ≤ gv h 286721) {m o : Nat} (hm : m < 4294967296) (ho : o < 4294967296) : rx_met l X Y B 66 (d + 3) [fr 67, fc m, fc o] h (fun v h' => (∃ z, v = some (fc z) ∧ z < 4294967296) ∧ ai_inv ai_T0 h' ∧ ai_fr ([274489], [99, 100]) h h') := by
  refine ru_met (M := fm_66) rfl rfl (by simp [fm_66]) ?_
  have hu := hu_66
  refine w_ld he hu rfl rfl rfl rfl rfl ?_
  refine w_c he hu rfl rfl rfl rfl ?_
  refine w_pi 274489 he hu hI rfl rfl rfl rfl (by decide) (by decide) (by decide) (fun h1 u1 hI1 => ?_)
  have f1 : ai_fr ([274489], [99, 100]) h h1 := u1.fr (Or.inl rfl)
  have hcol1 : gv h1 274469 = 1 → 1 ≤ gv h1 286721 := by
    rw [u1.off (by decide), u1.off (by decide)]
    exact hcol
  have h7 := (mo_n_le hI1).2
  have none : ∀ h2 loc, ai_inv ai_T0 h2 → ai_fr ([274489], [99, 100]) h h2 → ru l X Y B (d + 3) fm_66.1 45 loc [] h2 (fun v h' => (∃ z, v = some (fc z) ∧ z < 4294967296) ∧ ai_inv ai_T0 h' ∧ ai_fr ([274489], [99, 100]) h h') := fun h2 loc i1 i2 => by
    refine w_c he hu rfl rfl rfl rfl ?_
    exact w_iret he hu rfl rfl ⟨⟨_, rfl, by decide⟩, i1, i2⟩
  refine w_ld he hu rfl rfl rfl rfl rfl ?_
  refine w_ld he hu rfl rfl rfl rfl rfl ?_
  refine w_callM he hu hI1 rfl rfl rfl rfl (im_met he hI1 hm) (fun v h2 q => ?_)
  obtain ⟨rfl, q⟩ := q
  rcases q with ⟨rfl, q1⟩ | rfl
  case inr => exact w_cmp0 he hu rfl rfl rfl (ru_ne rfl) (fun c1 => none _ _ hI1 f1) (fun c1 => by cases c1)
  refine w_cmp0 he hu rfl rfl rfl (ru_ne rfl) (fun c1 => by cases c1) (fun c1 => ?_)
  refine w_ld he hu rfl rfl rfl rfl rfl ?_
  refine w_ld he hu rfl rfl rfl rfl rfl ?_
  refine w_callM he hu hI1 rfl rfl rfl rfl (im_met he hI1 ho) (fun v h3 q => ?_)
  obtain ⟨rfl, q⟩ := q
  rcases q with ⟨rfl, q2⟩ | rfl
  case inr => exact w_cmp0 he hu rfl rfl rfl (ru_ne rfl) (fun c1 => none _ _ hI1 f1) (fun c1 => by cases c1)
  refine w_cmp0 he hu rfl rfl rfl (ru_ne rfl) (fun c1 => by cases c1) (fun c1 => ?_)
  refine w_ld he hu rfl rfl rfl rfl rfl ?_
  refine w_gr 274482 96 he hu hI1 rfl rfl rfl rfl ?_
  refine w_c he hu rfl rfl rfl rfl ?_
  refine w_ld he hu rfl rfl rfl rfl rfl ?_
  refine w_bin hu rfl rfl (fun q => by omega) ?_
  rw [rop_add (by omega)]
  refine w_ald he hu hI1 rfl rfl rfl rfl (by omega) ?_
  refine w_cmp0 he hu rfl rfl rfl (ru_ne rfl) (fun c1 => none _ _ hI1 f1) (fun c1 => ?_)
  refine w_ld he hu rfl rfl rfl rfl rfl ?_
  refine w_gr 274482 96 he hu hI1 rfl rfl rfl rfl ?_
  refine w_c he hu rfl rfl rfl rfl ?_
  refine w_ld he hu rfl rfl rfl rfl rfl ?_
  refine w_bin hu rfl rfl (fun q => by omega) ?_
  rw [rop_add (by omega)]
  refine w_ald he hu hI1 rfl rfl rfl rfl (by omega) ?_
  refine w_cmp0 he hu rfl rfl rfl (ru_ne rfl) (fun c1 => ?_) (fun c1 => none _ _ hI1 f1)
  refine w_ld he hu rfl rfl rfl rfl rfl ?_
  refine w_ld he hu rfl rfl rfl rfl rfl ?_
  refine w_callM he hu hI1 rfl rfl rfl rfl (lf_met he hI1 hcol1 (to := o) (by omega)) (fun v h4 q => ?_)
  obtain ⟨rfl, hI4, hi4, f4⟩ := q
  have f5 : ai_fr ([274489], [99, 100]) h h4 := ai_fr_trans f1 (ai_fr_of f4 (by decide))
  obtain ⟨g1, g2, g3, g4⟩ := mo_fr99 hI1 f4
  refine w_ld he hu rfl rfl rfl rfl rfl ?_
  refine w_gr 274487 99 he hu hI4 rfl rfl rfl rfl ?_
  refine w_ld he hu rfl rfl rfl rfl rfl ?_
  refine w_ald he hu hI4 rfl rfl rfl rfl (by omega) ?_
  have hfm := (hi4.2 m (by omega)).1
  refine w_c he hu rfl rfl rfl rfl ?_
  refine w_cmp he hu rfl rfl rfl (ru_ne rfl) (fun c2 => ?_) (fun c2 => ?_)
  · rw [rc_ne (by omega) (by omega)] at c2
    have c2 := bb_ne c2
    have hf6 := ch_far (mo_n_le hI4).2 hi4 (by omega) (by omega) c2
    refine w_ld he hu rfl rfl rfl rfl rfl ?_
    refine w_st he hu rfl rfl rfl rfl ?_
    refine w_ld he hu rfl rfl rfl rfl rfl ?_
    refine w_gr 274488 100 he hu hI4 rfl rfl rfl rfl ?_
    refine w_c he hu rfl rfl rfl rfl ?_
    refine w_ld he hu rfl rfl rfl rfl rfl ?_
    have em := rb_small (x := m) (by omega)
    refine w_ast (q := (2147483648, 2147483654)) he hu hI4 rfl rfl rfl rfl (by decide) rfl (by omega) (by omega) (by simp only; omega) (fun h5 u5 hI5 => ?_)
    refine w_ld he hu rfl rfl rfl rfl rfl ?_
    refine w_c he hu rfl rfl rfl rfl ?_
    refine w_pi 274489 he hu hI5 rfl rfl rfl rfl (by decide) (by decide) (by decide) (fun h6 u6 hI6 => ?_)
    have f6 : ai_fr ([274489], [100]) h4 h6 := ai_fr_trans (u5.fr (Or.inr rfl)) (u6.fr (Or.inl rfl))
    obtain ⟨k1, k2, k3, k4, k5, k6⟩ := ch_keep hI4 f6 hi4 (by omega)
    have e6 : gv h6 274489 = 1 := u6.at
    refine ru_sub [(3, fc m), (2, fc o), (1, fc m), (0, fr 67)] ⟨rfl, rfl, rfl, rfl, trivial⟩ ?_
    exact ch_out he (by omega) (gv h6 (99 * 4096 + m)) m h6 rfl (by omega) hI6 (by rw [k3, k4, g3, g4]; exact hcol1) k1 (by rw [k5 m (by omega)]; exact hf6) (by rw [k5 m (by omega)]; omega) (by omega) (fun h' z q1 q2 => ⟨⟨z, rfl, q2⟩, q1.1, ai_fr_trans f5 (ai_fr_trans (ai_fr_of f6 (by decide)) (ai_fr_of q1.2 (by decide)))⟩)
  · refine w_c he hu rfl rfl rfl rfl ?_
    exact w_iret he hu rfl rfl ⟨⟨_, rfl, by decide⟩, hI4, f5⟩
