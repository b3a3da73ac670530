section RR
variable {l : Launch} {X : fx_X} {Y : fx_Y} {B : fx_B} {d : Nat}
abbrev rr_m : ai_M := ([274436, 274437, 274438, 274439, 274440, 274441, 274442, 274471, 274472, 274473, 274474], [75, 84, 85, 86, 91, 92, 93, 94])
theorem rr_met (he : ai_env X B) {b r : Nat} (hb : b < 2) (hr : r < 2) {h : fx_H} (hI : ai_inv ai_T0 h) (hP : mo_PQ h) (hrb : gv h 274470 = b) (hend : gv h 274439 ≤ 1600) : rx_met l X Y B 224 (d + 5) [fr 67, fc r] h (fun v h' => v = none ∧ ai_inv ai_T0 h' ∧ mo_PQ h' ∧ gv h' 274439 ≤ 1600 ∧ gv h' (86 * 4096 + (2 * b + r)) = 1 ∧ gv h' (86 * 4096 + (2 * b + (1 - r))) = gv h (86 * 4096 + (2 * b + (1 - r))) ∧ ai_fr rr_m h h') := by
  refine ru_met (M := fm_224) rfl rfl (by simp [fm_224]) ?_
  have hu := hu_224
  obtain ⟨hP, hQ⟩ := hP
  obtain ⟨Q1, Q2, Q3⟩ := hQ b hb hrb
  have bt : ∀ (lo hi i : Nat), i < 4096 → True := fun _ _ _ _ => trivial
  obtain ⟨-, -, un60⟩ := gv_nat (p := 75 * 4096 + b) (lo := 0) (hi := 60) hI (by rcases (by omega : b = 0 ∨ b = 1) with rfl | rfl <;> rfl) (by decide)
  obtain ⟨-, -, cd⟩ := gv_nat (p := 274471) (lo := 0) (hi := 1120) hI rfl (by decide)
  have q0 : ∀ (i : Nat) (q : Nat × Nat), ([q] : List (Nat × Nat))[i % ([q] : List (Nat × Nat)).length]? = some q := fun i q => by
    rw [show i % ([q] : List (Nat × Nat)).length = 0 by show i % 1 = 0; omega]
    rfl
  refine w_ld he hu rfl rfl rfl rfl rfl ?_
  refine w_gr 274459 86 he hu hI rfl rfl rfl rfl ?_
  refine w_c he hu rfl rfl rfl rfl ?_
  refine w_ld he hu rfl rfl rfl rfl rfl ?_
  refine w_gi 274470 he hu hI rfl rfl rfl rfl ?_
  refine w_bin hu rfl rfl (fun q => by omega) ?_
  refine w_ld he hu rfl rfl rfl rfl rfl ?_
  refine w_bin hu rfl rfl (fun q => by omega) ?_
  rw [hrb, rop_mul (by omega), rop_add (by omega)]
  refine w_c he hu rfl rfl rfl rfl ?_
  refine w_astb hu hI rfl rfl rfl rfl (by omega) (q0 _ _) (by decide) (by decide) (by decide) (fun h1 u1 hI1 => ?_)
  refine w_ld he hu rfl rfl rfl rfl rfl ?_
  refine w_c he hu rfl rfl rfl rfl ?_
  refine w_pi 274474 he hu hI1 rfl rfl rfl rfl (by decide) (by decide) (by decide) (fun h2 u2 hI2 => ?_)
  refine w_ld he hu rfl rfl rfl rfl rfl ?_
  refine w_gr 274457 84 he hu hI2 rfl rfl rfl rfl ?_
  refine w_c he hu rfl rfl rfl rfl ?_
  refine w_ld he hu rfl rfl rfl rfl rfl ?_
  refine w_gi 274470 he hu hI2 rfl rfl rfl rfl ?_
  refine w_bin hu rfl rfl (fun q => by omega) ?_
  refine w_ld he hu rfl rfl rfl rfl rfl ?_
  refine w_bin hu rfl rfl (fun q => by omega) ?_
  have a1 : gv h2 274470 = b := (u2.off (by decide)).trans ((u1.off (by omega)).trans hrb)
  have a2 : gv h2 274471 = gv h 274471 := (u2.off (by decide)).trans (u1.off (by omega))
  rw [a1, rop_mul (by omega), rop_add (by omega)]
  refine w_ld he hu rfl rfl rfl rfl rfl ?_
  refine w_gi 274471 he hu hI2 rfl rfl rfl rfl ?_
  rw [a2]
  have ecd := rb_small (x := gv h 274471) (by omega)
  refine w_ast he hu hI2 rfl rfl rfl rfl (by omega) (q0 _ _) (by omega) (by simp only; omega) (by simp only; omega) (fun h3 u3 hI3 => ?_)
  have c1 : gv h3 274470 = b := (u3.off (by omega)).trans a1
  have c2 : gv h3 274439 ≤ 1600 := by rw [u3.off (by omega), u2.off (by decide), u1.off (by omega)]; exact hend
  have c3 : gv h3 274471 = gv h 274471 := (u3.off (by omega)).trans a2
  have c4 : gv h3 (75 * 4096 + b) = gv h (75 * 4096 + b) := (u3.off (by omega)).trans ((u2.off (by omega)).trans (u1.off (by omega)))
  have c5 : gv h3 274474 = 0 := (u3.off (by omega)).trans u2.at
  have ar3 : ∀ k i, k = 91 ∨ k = 85 → i < 4096 → gv h3 (k * 4096 + i) = gv h (k * 4096 + i) := fun k i hk hi => (u3.off (by omega)).trans ((u2.off (by omega)).trans (u1.off (by omega)))
  have l3 : ∀ i, i < 4096 → gv h3 (86 * 4096 + i) = if i = 2 * b + r then 1 else gv h (86 * 4096 + i) := fun i hi => by
    rw [u3.off (by omega), u2.off (by omega)]
    by_cases hq : i = 2 * b + r
    · rw [if_pos hq, hq, u1.at]
    · rw [if_neg hq, u1.off (by omega)]
  have fr3 : ∀ i, i < 4096 → gv h3 (84 * 4096 + i) = if i = 2 * b + r then gv h 274471 else gv h (84 * 4096 + i) := fun i hi => by
    by_cases hq : i = 2 * b + r
    · rw [if_pos hq, hq, u3.at]
    · rw [if_neg hq, u3.off (by omega), u2.off (by omega), u1.off (by omega)]
  refine w_ld he hu rfl rfl rfl rfl rfl ?_
  refine w_callM he hu hI3 rfl rfl rfl rfl (ee_met he hb (F := gv h 274471) (U0 := gv h (75 * 4096 + b)) Q1 Q2 hI3 c1 c2 c3 c4 c5) (fun v h4 q => ?_)
  obtain ⟨rfl, w, hI4, d1, d2, d3, d4, d5⟩ := q
  have hb4 : ∀ k i, k = 84 ∨ k = 85 ∨ k = 86 → i < 4096 → gv h4 (k * 4096 + i) = gv h3 (k * 4096 + i) := fun k i hk hi => gv_fr (d3 _ (mo_mem_no (fun y hy e => by
    have : y / 4096 = 67 := by
      simp only [List.mem_cons, List.not_mem_nil, or_false] at hy
      omega
    rw [e, ai_p1 hi] at this
    omega)) (by rw [ai_p1 hi]; rcases hk with rfl | rfl | rfl <;> rfl))
  obtain ⟨p1, p2, p3, p4, p5, p6, p7, p8, p9, p10, p11, p12, p13, p14⟩ := d5
  have hcd4 : gv h4 274471 ≤ gv h 274471 + 9 * gv h4 274474 := by
    rcases (by omega : w = 0 ∨ w = 1) with q | q
    · have := p13 q
      omega
    · have := p12 q
      omega
  obtain ⟨-, -, un60'⟩ := gv_nat (p := 75 * 4096 + b) (lo := 0) (hi := 60) hI4 (by rcases (by omega : b = 0 ∨ b = 1) with rfl | rfl <;> rfl) (by decide)
  refine w_ld he hu rfl rfl rfl rfl rfl ?_
  refine w_gr 274458 85 he hu hI4 rfl rfl rfl rfl ?_
  refine w_c he hu rfl rfl rfl rfl ?_
  refine w_ld he hu rfl rfl rfl rfl rfl ?_
  refine w_gi 274470 he hu hI4 rfl rfl rfl rfl ?_
  refine w_bin hu rfl rfl (fun q => by omega) ?_
  refine w_ld he hu rfl rfl rfl rfl rfl ?_
  refine w_bin hu rfl rfl (fun q => by omega) ?_
  rw [d1, rop_mul (by omega), rop_add (by omega)]
  refine w_ld he hu rfl rfl rfl rfl rfl ?_
  refine w_gi 274471 he hu hI4 rfl rfl rfl rfl ?_
  have ecd4 := rb_small (x := gv h4 274471) (by omega)
  refine w_ast he hu hI4 rfl rfl rfl rfl (by omega) (q0 _ _) (by omega) (by simp only; omega) (by simp only; omega) (fun h5 u5 hI5 => ?_)
  have L5 : ∀ i, i < 4096 → gv h5 (86 * 4096 + i) = if i = 2 * b + r then 1 else gv h (86 * 4096 + i) := fun i hi => by rw [u5.off (by omega), hb4 86 i (Or.inr (Or.inr rfl)) hi]; exact l3 i hi
  have F5 : ∀ i, i < 4096 → gv h5 (84 * 4096 + i) = if i = 2 * b + r then gv h 274471 else gv h (84 * 4096 + i) := fun i hi => by rw [u5.off (by omega), hb4 84 i (Or.inl rfl) hi]; exact fr3 i hi
  have T5 : ∀ i, i < 4096 → gv h5 (85 * 4096 + i) = if i = 2 * b + r then gv h4 274471 else gv h (85 * 4096 + i) := fun i hi => by
    by_cases hq : i = 2 * b + r
    · rw [if_pos hq, hq, u5.at]
    · rw [if_neg hq, u5.off (by omega), hb4 85 i (Or.inr (Or.inl rfl)) hi]
      exact ar3 85 i (Or.inr rfl) hi
  have C5 : ∀ k, k < 1120 → (k < gv h 274471 ∨ 560 * b + 560 ≤ k) → mo_code h5 k = mo_code h k := fun k k1 k2 => ((u5.off (by omega)).trans (d4 k k1 k2)).trans (ar3 91 k (Or.inl rfl) (by omega))
  have C5' : ∀ k, k < 4096 → mo_code h5 k = mo_code h4 k := fun k hk => u5.off (by omega)
  have e5 : gv h5 274471 = gv h4 274471 := u5.off (by omega)
  refine w_vret he hu rfl ⟨rfl, hI5, ⟨fun b' r' hb' hr' => ?_, fun b' hb' hq => ?_⟩, by rw [u5.off (by omega)]; exact d2, by rw [L5 _ (by omega), if_pos rfl], by rw [L5 _ (by omega), if_neg (by omega)], ?_⟩
  · intro hlook
    rw [L5 _ (by omega)] at hlook
    rw [F5 _ (by omega), T5 _ (by omega)]
    by_cases hq : 2 * b' + r' = 2 * b + r
    · have : b' = b := by omega
      subst this
      rw [if_pos hq, if_pos hq]
      exact ⟨Q1, p1, by omega, mo_wf_ext (fun i i1 i2 => C5' i (by omega)) p10⟩
    · rw [if_neg hq] at hlook
      rw [if_neg hq, if_neg hq]
      obtain ⟨s1, s2, s3, s4⟩ := hP b' r' hb' hr' hlook
      refine ⟨s1, s2, s3, mo_wf_ext (fun i i1 i2 => C5 i (by omega) ?_) s4⟩
      by_cases hq2 : b' = b
      · subst hq2
        have := Q3 r' hr' hlook
        omega
      · omega
  · have hrb5 : gv h5 274470 = b := (u5.off (by omega)).trans d1
    have : b' = b := by omega
    subst this
    rw [e5, u5.off (by omega : 75 * 4096 + b' ≠ 85 * 4096 + (2 * b' + r)), p2]
    refine ⟨by omega, by omega, fun r' hr' hlook => ?_⟩
    rw [L5 _ (by omega)] at hlook
    rw [T5 _ (by omega)]
    by_cases hq3 : 2 * b' + r' = 2 * b' + r
    · rw [if_pos hq3]
      exact Nat.le_refl _
    · rw [if_neg hq3] at hlook
      rw [if_neg hq3]
      have := Q3 r' hr' hlook
      omega
  · exact ai_fr_trans (u1.fr (Or.inr (by rw [ai_p1 (by omega)]; rfl))) (ai_fr_trans (u2.fr (Or.inl rfl)) (ai_fr_trans (u3.fr (Or.inr (by rw [ai_p1 (by omega)]; rfl))) (ai_fr_trans (ai_fr_of d3 (by decide)) (u5.fr (Or.inr (by rw [ai_p1 (by omega)]; rfl))))))
end RR
theorem ic_rr {l : Launch} {X : fx_X} {Y : fx_Y} {B : fx_B} (he : ai_env X B) {b r y : Nat} (hb : b < 2) (hr : r < 2) (hy : y < 2) {I : ai_I} (h1 : I.1 = ([.inr (fr 67), .inl (r + 2147483648, r + 2147483648)], [(274439, .inl (2147483648, 2147485248)), (274470, .inl (b + 2147483648, b + 2147483648)), (86 * 4096 + (2 * b + (1 - r)), .inl (y + 2147483648, y + 2147483648))])) (hp1 : I.2.1.1 = none) (hp : ∀ q ∈ I.2.1.2, q = (274439, .inl (2147483648, 2147485248)) ∨ q = (86 * 4096 + (2 * b + r), .inl (2147483649, 2147483649)) ∨ q = (86 * 4096 + (2 * b + (1 - r)), .inl (y + 2147483648, y + 2147483648))) (hm : (rr_m.1.all (ai_mem I.2.2.1.1) && rr_m.2.all (ai_mem I.2.2.1.2)) = true) (hd : 5 ≤ I.2.2.2) : ai_con l X Y B ai_T0 mo_PQ 224 I := by
  intro ws h g1 g2 hI hP
  rw [h1] at g1 g2
  rcases ws with _ | ⟨w, _ | ⟨w2, _ | ⟨w3, ws⟩⟩⟩
  · exact g1.elim
  · exact g1.2.elim
  · obtain ⟨hw, ⟨n, rfl, n1, n2, n3⟩, -⟩ := g1
    have hw : w = fr 67 := hw
    subst hw
    have en : fx_b n = (n + 2147483648) % 4294967296 := rfl
    have : n = r := by omega
    subst this
    have b1 := at_num (lo := b) (hi := b) (g2 _ (List.mem_cons_of_mem _ List.mem_cons_self)) (by omega)
    have e1 := at_num (lo := 0) (hi := 1600) (g2 _ List.mem_cons_self) (by decide)
    have o1 := at_num (lo := y) (hi := y) (g2 _ (List.mem_cons_of_mem _ (List.mem_cons_of_mem _ List.mem_cons_self))) (by omega)
    have key := rr_met (l := l) (Y := Y) (d := 0) he hb hr hI hP (by omega) e1.2
    refine rx_met_mono (rx_met_deep hd key) (fun v h' q => ?_)
    obtain ⟨rfl, i1, i2, i3, i4, i6, i5⟩ := q
    rw [hp1]
    refine ⟨trivial, fun q hq => ?_, i1, ai_fr_of i5 hm, i2⟩
    rcases hp q hq with rfl | rfl | rfl
    · exact mo_iv 0 1600 i1 rfl (Nat.zero_le _) i3 (by decide)
    · refine mo_iv (a := 2147483648) (b := 2147483649) 1 1 i1 ?_ (by omega) (by omega) (by decide)
      rcases (by omega : b = 0 ∨ b = 1) with rfl | rfl <;> rcases (by omega : n = 0 ∨ n = 1) with rfl | rfl <;> rfl
    · refine mo_iv (a := 2147483648) (b := 2147483649) y y i1 ?_ (by omega) (by omega) (by omega)
      rcases (by omega : b = 0 ∨ b = 1) with rfl | rfl <;> rcases (by omega : n = 0 ∨ n = 1) with rfl | rfl <;> rfl
  · exact g1.2.2.elim
theorem ic_h_readRule_0_r0_y0 {l : Launch} {X : fx_X} {Y : fx_Y} {B : fx_B} (he : ai_env X B) : ai_con l X Y B ai_T0 mo_PQ 224 ii_h_readRule_0_r0_y0 := ic_rr he (b := 0) (r := 0) (y := 0) (by decide) (by decide) (by decide) rfl rfl (fun q hq => by
  rcases List.mem_cons.mp hq with rfl | hq
  · exact Or.inl rfl
  · rcases List.mem_cons.mp hq with rfl | hq
    · exact Or.inr (Or.inl rfl)
    · rcases List.mem_cons.mp hq with rfl | hq
      · exact Or.inr (Or.inr rfl)
      · cases hq) (by decide) (by decide)
theorem ic_h_readRule_0_r0_y1 {l : Launch} {X : fx_X} {Y : fx_Y} {B : fx_B} (he : ai_env X B) : ai_con l X Y B ai_T0 mo_PQ 224 ii_h_readRule_0_r0_y1 := ic_rr he (b := 0) (r := 0) (y := 1) (by decide) (by decide) (by decide) rfl rfl (fun q hq => by
  rcases List.mem_cons.mp hq with rfl | hq
  · exact Or.inl rfl
  · rcases List.mem_cons.mp hq with rfl | hq
    · exact Or.inr (Or.inl rfl)
    · rcases List.mem_cons.mp hq with rfl | hq
      · exact Or.inr (Or.inr rfl)
      · cases hq) (by decide) (by decide)
theorem ic_h_readRule_1_r0_y0 {l : Launch} {X : fx_X} {Y : fx_Y} {B : fx_B} (he : ai_env X B) : ai_con l X Y B ai_T0 mo_PQ 224 ii_h_readRule_1_r0_y0 := ic_rr he (b := 0) (r := 1) (y := 0) (by decide) (by decide) (by decide) rfl rfl (fun q hq => by
  rcases List.mem_cons.mp hq with rfl | hq
  · exact Or.inl rfl
  · rcases List.mem_cons.mp hq with rfl | hq
    · exact Or.inr (Or.inr rfl)
    · rcases List.mem_cons.mp hq with rfl | hq
      · exact Or.inr (Or.inl rfl)
      · cases hq) (by decide) (by decide)
theorem ic_h_readRule_1_r0_y1 {l : Launch} {X : fx_X} {Y : fx_Y} {B : fx_B} (he : ai_env X B) : ai_con l X Y B ai_T0 mo_PQ 224 ii_h_readRule_1_r0_y1 := ic_rr he (b := 0) (r := 1) (y := 1) (by decide) (by decide) (by decide) rfl rfl (fun q hq => by
  rcases List.mem_cons.mp hq with rfl | hq
  · exact Or.inl rfl
  · rcases List.mem_cons.mp hq with rfl | hq
    · exact Or.inr (Or.inr rfl)
    · rcases List.mem_cons.mp hq with rfl | hq
      · exact Or.inr (Or.inl rfl)
      · cases hq) (by decide) (by decide)
theorem ic_h_readRule_0_r1_y0 {l : Launch} {X : fx_X} {Y : fx_Y} {B : fx_B} (he : ai_env X B) : ai_con l X Y B ai_T0 mo_PQ 224 ii_h_readRule_0_r1_y0 := ic_rr he (b := 1) (r := 0) (y := 0) (by decide) (by decide) (by decide) rfl rfl (fun q hq => by
  rcases List.mem_cons.mp hq with rfl | hq
  · exact Or.inl rfl
  · rcases List.mem_cons.mp hq with rfl | hq
    · exact Or.inr (Or.inl rfl)
    · rcases List.mem_cons.mp hq with rfl | hq
      · exact Or.inr (Or.inr rfl)
      · cases hq) (by decide) (by decide)
theorem ic_h_readRule_0_r1_y1 {l : Launch} {X : fx_X} {Y : fx_Y} {B : fx_B} (he : ai_env X B) : ai_con l X Y B ai_T0 mo_PQ 224 ii_h_readRule_0_r1_y1 := ic_rr he (b := 1) (r := 0) (y := 1) (by decide) (by decide) (by decide) rfl rfl (fun q hq => by
  rcases List.mem_cons.mp hq with rfl | hq
  · exact Or.inl rfl
  · rcases List.mem_cons.mp hq with rfl | hq
    · exact Or.inr (Or.inl rfl)
    · rcases List.mem_cons.mp hq with rfl | hq
      · exact Or.inr (Or.inr rfl)
      · cases hq) (by decide) (by decide)
theorem ic_h_readRule_1_r1_y0 {l : Launch} {X : fx_X} {Y : fx_Y} {B : fx_B} (he : ai_env X B) : ai_con l X Y B ai_T0 mo_PQ 224 ii_h_readRule_1_r1_y0 := ic_rr he (b := 1) (r := 1) (y := 0) (by decide) (by decide) (by decide) rfl rfl (fun q hq => by
  rcases List.mem_cons.mp hq with rfl | hq
  · exact Or.inl rfl
  · rcases List.mem_cons.mp hq with rfl | hq
    · exact Or.inr (Or.inr rfl)
    · rcases List.mem_cons.mp hq with rfl | hq
      · exact Or.inr (Or.inl rfl)
      · cases hq) (by decide) (by decide)
theorem ic_h_readRule_1_r1_y1 {l : Launch} {X : fx_X} {Y : fx_Y} {B : fx_B} (he : ai_env X B) : ai_con l X Y B ai_T0 mo_PQ 224 ii_h_readRule_1_r1_y1 := ic_rr he (b := 1) (r := 1) (y := 1) (by decide) (by decide) (by decide) rfl rfl (fun q hq => by
  rcases List.mem_cons.mp hq with rfl | hq
  · exact Or.inl rfl
  · rcases List.mem_cons.mp hq with rfl | hq
    · exact Or.inr (Or.inr rfl)
    · rcases List.mem_cons.mp hq with rfl | hq
      · exact Or.inr (Or.inl rfl)
      · cases hq) (by decide) (by decide)
