theorem hu_56 : ru_u fm_56.1 = true := by decide +kernel
theorem hu_58 : ru_u fm_58.1 = true := by decide +kernel
theorem rc_ne0 {x : Nat} (hx : x < 2147483648) : fx_con 1 (fx_b x) 2147483648 = !(Nat.beq x 0) := by
  have := rc_ne (y := 0) hx (by decide)
  rw [rb_small (x := 0) (by decide)] at this
  exact this
section UN
variable {l : Launch} {X : fx_X} {Y : fx_Y} {B : fx_B} {d : Nat}
theorem un_met (he : ai_env X B) {h : fx_H} (hI : ai_inv ai_T0 h) (hq : gv h 274485 + gv h 274486 ≤ 40) : rx_met l X Y B 56 (d + 1) [fr 67] h (fun v h' => (∃ x, v = some (fc x) ∧ x < 2) ∧ ai_inv ai_T0 h' ∧ gv h' 274485 + gv h' 274486 ≤ 40 ∧ ai_fr ([274485, 274486], [96, 98]) h h') := by
  refine ru_met (M := fm_56) rfl rfl (by simp [fm_56]) ?_
  have hu := hu_56
  refine w_ld he hu rfl rfl rfl rfl rfl ?_
  refine w_gi 274485 he hu hI rfl rfl rfl rfl ?_
  refine w_cmp0 he hu rfl rfl rfl (ru_ne rfl) (fun c1 => ?_) (fun c1 => ?_)
  · rw [rc_ne0 (by omega)] at c1
    have c1 : gv h 274485 ≠ 0 := fun q => by
      rw [q] at c1
      cases c1
    refine w_ld he hu rfl rfl rfl rfl rfl ?_
    refine w_dup he hu rfl rfl rfl ?_
    refine w_gi 274485 he hu hI rfl rfl rfl rfl ?_
    refine w_c he hu rfl rfl rfl rfl ?_
    refine w_bin hu rfl rfl (fun q => by omega) ?_
    rw [rop_sub (by omega) (by omega)]
    have e1 := rb_small (x := gv h 274485 - 1) (by omega)
    refine w_pi 274485 he hu hI rfl rfl rfl rfl (by omega) (by omega) (by omega) (fun h1 u1 hI1 => ?_)
    have a1 : gv h1 274485 = gv h 274485 - 1 := u1.at
    have b1 : gv h1 274486 = gv h 274486 := u1.off (by decide)
    refine w_ld he hu rfl rfl rfl rfl rfl ?_
    refine w_dup he hu rfl rfl rfl ?_
    refine w_gi 274486 he hu hI1 rfl rfl rfl rfl ?_
    refine w_c he hu rfl rfl rfl rfl ?_
    refine w_bin hu rfl rfl (fun q => by omega) ?_
    rw [rop_add (by omega)]
    have e2 := rb_small (x := gv h1 274486 + 1) (by omega)
    refine w_pi 274486 he hu hI1 rfl rfl rfl rfl (by omega) (by omega) (by omega) (fun h2 u2 hI2 => ?_)
    have a2 : gv h2 274485 = gv h1 274485 := u2.off (by decide)
    have b2 : gv h2 274486 = gv h1 274486 + 1 := u2.at
    refine w_ld he hu rfl rfl rfl rfl rfl ?_
    refine w_callM he hu hI2 rfl rfl rfl rfl (xc_met he hI2 (by omega)) (fun v h3 q => ?_)
    obtain ⟨rfl, i1, i2⟩ := q
    have a3 : gv h3 274485 = gv h2 274485 := gv_fr (i2 _ rfl rfl)
    have b3 : gv h3 274486 = gv h2 274486 := gv_fr (i2 _ rfl rfl)
    refine w_c he hu rfl rfl rfl rfl ?_
    exact w_iret he hu rfl rfl ⟨⟨1, rfl, by decide⟩, i1, by omega, ai_fr_trans (u1.fr (Or.inl rfl)) (ai_fr_trans (u2.fr (Or.inl rfl)) (ai_fr_of i2 (by decide)))⟩
  · refine w_c he hu rfl rfl rfl rfl ?_
    exact w_iret he hu rfl rfl ⟨⟨0, rfl, by decide⟩, hI, hq, ai_fr_refl⟩
theorem re_met (he : ai_env X B) {h : fx_H} (hI : ai_inv ai_T0 h) (hq : gv h 274485 + gv h 274486 ≤ 40) : rx_met l X Y B 58 (d + 1) [fr 67] h (fun v h' => (∃ x, v = some (fc x) ∧ x < 2) ∧ ai_inv ai_T0 h' ∧ gv h' 274485 + gv h' 274486 ≤ 40 ∧ ai_fr ([274485, 274486], [96, 98]) h h') := by
  refine ru_met (M := fm_58) rfl rfl (by simp [fm_58]) ?_
  have hu := hu_58
  refine w_ld he hu rfl rfl rfl rfl rfl ?_
  refine w_gi 274486 he hu hI rfl rfl rfl rfl ?_
  refine w_cmp0 he hu rfl rfl rfl (ru_ne rfl) (fun c1 => ?_) (fun c1 => ?_)
  · rw [rc_ne0 (by omega)] at c1
    have c1 : gv h 274486 ≠ 0 := fun q => by
      rw [q] at c1
      cases c1
    refine w_ld he hu rfl rfl rfl rfl rfl ?_
    refine w_callM he hu hI rfl rfl rfl rfl (xc_met he hI (by omega)) (fun v h3 q => ?_)
    obtain ⟨rfl, i1, i2⟩ := q
    have a3 : gv h3 274485 = gv h 274485 := gv_fr (i2 _ rfl rfl)
    have b3 : gv h3 274486 = gv h 274486 := gv_fr (i2 _ rfl rfl)
    refine w_ld he hu rfl rfl rfl rfl rfl ?_
    refine w_dup he hu rfl rfl rfl ?_
    refine w_gi 274485 he hu i1 rfl rfl rfl rfl ?_
    refine w_c he hu rfl rfl rfl rfl ?_
    refine w_bin hu rfl rfl (fun q => by omega) ?_
    rw [rop_add (by omega)]
    have e1 := rb_small (x := gv h3 274485 + 1) (by omega)
    refine w_pi 274485 he hu i1 rfl rfl rfl rfl (by omega) (by omega) (by omega) (fun h1 u1 hI1 => ?_)
    have a1 : gv h1 274485 = gv h3 274485 + 1 := u1.at
    have b1 : gv h1 274486 = gv h3 274486 := u1.off (by decide)
    refine w_ld he hu rfl rfl rfl rfl rfl ?_
    refine w_dup he hu rfl rfl rfl ?_
    refine w_gi 274486 he hu hI1 rfl rfl rfl rfl ?_
    refine w_c he hu rfl rfl rfl rfl ?_
    refine w_bin hu rfl rfl (fun q => by omega) ?_
    rw [rop_sub (by omega) (by omega)]
    have e2 := rb_small (x := gv h1 274486 - 1) (by omega)
    refine w_pi 274486 he hu hI1 rfl rfl rfl rfl (by omega) (by omega) (by omega) (fun h2 u2 hI2 => ?_)
    have a2 : gv h2 274485 = gv h1 274485 := u2.off (by decide)
    have b2 : gv h2 274486 = gv h1 274486 - 1 := u2.at
    refine w_c he hu rfl rfl rfl rfl ?_
    exact w_iret he hu rfl rfl ⟨⟨1, rfl, by decide⟩, hI2, by omega, ai_fr_trans (ai_fr_of i2 (by decide)) (ai_fr_trans (u1.fr (Or.inl rfl)) (u2.fr (Or.inl rfl)))⟩
  · refine w_c he hu rfl rfl rfl rfl ?_
    exact w_iret he hu rfl rfl ⟨⟨0, rfl, by decide⟩, hI, hq, ai_fr_refl⟩
end UN
