/-! the hour: one function in both -/
theorem hu_105 : ru_u fm_105.1 = true := by decide +kernel
theorem hu_106 : ru_u fm_106.1 = true := by decide +kernel
theorem hu_153 : ru_u fm_153.1 = true := by decide +kernel
/-- the answer and the time after it -/
def la_K (p : Nat) (h : fx_H) (x : Nat) : rx_K := fun v h' => ai_inv ai_T0 h' ∧ ai_fr ([p], []) h h' ∧ ((x ≤ 1000 ∧ gv h p + x ≤ 100000 ∧ v = some (fc (gv h p + x)) ∧ gv h' p = gv h p + x) ∨ (¬ (x ≤ 1000 ∧ gv h p + x ≤ 100000) ∧ v = some (fc 4294967295) ∧ gv h' p = gv h p))
section LA
variable {l : Launch} {X : fx_X} {Y : fx_Y} {B : fx_B} {d : Nat}
theorem ix_met (he : ai_env X B) {h : fx_H} {x b : Nat} : rx_met l X Y B 153 d [fc x, fc b] h (fun v h' => h' = h ∧ ((v = some (fc 1) ∧ 2147483648 ≤ fx_b x ∧ fx_b x ≤ fx_b b) ∨ (v = some (fc 0) ∧ ¬ (2147483648 ≤ fx_b x ∧ fx_b x ≤ fx_b b)))) := by
  refine ru_met (M := fm_153) rfl rfl (by simp [fm_153]) ?_
  have hu := hu_153
  refine w_ld he hu rfl rfl rfl rfl rfl ?_
  refine w_cmp0 he hu rfl rfl rfl (ru_ne rfl) (fun c1 => ?_) (fun c1 => ?_)
  · rw [ai_con2] at c1
    have c1 := fx_blt c1
    refine w_c he hu rfl rfl rfl rfl ?_
    exact w_iret he hu rfl rfl ⟨rfl, Or.inr ⟨rfl, by omega⟩⟩
  rw [ai_con2] at c1
  have c1 := fx_nlt c1
  refine w_ld he hu rfl rfl rfl rfl rfl ?_
  refine w_ld he hu rfl rfl rfl rfl rfl ?_
  refine w_cmp he hu rfl rfl rfl (ru_ne rfl) (fun c2 => ?_) (fun c2 => ?_)
  · rw [ai_con4] at c2
    have c2 := fx_blt c2
    refine w_c he hu rfl rfl rfl rfl ?_
    exact w_iret he hu rfl rfl ⟨rfl, Or.inr ⟨rfl, by omega⟩⟩
  · rw [ai_con4] at c2
    have c2 := fx_nlt c2
    refine w_c he hu rfl rfl rfl rfl ?_
    refine w_go he hu rfl (ru_ne rfl) ?_
    exact w_iret he hu rfl rfl ⟨rfl, Or.inl ⟨rfl, c1, c2⟩⟩
theorem lx_met (he : ai_env X B) {h : fx_H} (hI : ai_inv ai_T0 h) {x : Nat} (hx : x < 4294967296) (ht : gv h 12 ≤ 100000) : rx_met l X Y B 105 (d + 1) [fr 0, fc x] h (la_K 12 h x) := by
  refine ru_met (M := fm_105) rfl rfl (by simp [fm_105]) ?_
  have hu := hu_105
  have ex : fx_b x = (x + 2147483648) % 4294967296 := rfl
  have e1 : fx_b 1000 = 2147484648 := rb_small (by decide)
  have e0 : fx_b 0 = 2147483648 := rb_small (by decide)
  refine w_ld he hu rfl rfl rfl rfl rfl ?_
  refine w_c he hu rfl rfl rfl rfl ?_
  refine w_callS he hu rfl rfl rfl rfl (ix_met he) (fun v h2 q => ?_)
  obtain ⟨rfl, q⟩ := q
  rcases q with ⟨rfl, q1, q2⟩ | ⟨rfl, q1⟩
  rotate_left
  · refine w_cmp0 he hu rfl rfl rfl (ru_ne rfl) (fun c1 => ?_) (fun c1 => ?_)
    · refine w_c he hu rfl rfl rfl rfl ?_
      exact w_iret he hu rfl rfl ⟨hI, ai_fr_refl, Or.inr ⟨by omega, rfl, rfl⟩⟩
    · rw [rc_eq0 (by decide)] at c1
      cases c1
  have hx2 : x ≤ 1000 := by omega
  refine w_cmp0 he hu rfl rfl rfl (ru_ne rfl) (fun c1 => ?_) (fun c1 => ?_)
  · rw [rc_eq0 (by decide)] at c1
    cases c1
  refine w_ld he hu rfl rfl rfl rfl rfl ?_
  refine w_get (r := 0) he hu hI rfl rfl rfl rfl (gv_int (p := 12) hI rfl).1 ?_
  refine w_ld he hu rfl rfl rfl rfl rfl ?_
  refine w_bin hu rfl rfl (fun q => by omega) ?_
  rw [rop_add (by omega)]
  have es := rb_small (x := gv h2 12 + x) (by omega)
  have ek : fx_b 100000 = 2147583648 := rb_small (by decide)
  refine w_c he hu rfl rfl rfl rfl ?_
  refine w_cmp he hu rfl rfl rfl (ru_ne rfl) (fun c2 => ?_) (fun c2 => ?_)
  rotate_left
  · rw [ai_con5] at c2
    have c2 := fx_nle c2
    refine w_c he hu rfl rfl rfl rfl ?_
    exact w_iret he hu rfl rfl ⟨hI, ai_fr_refl, Or.inr ⟨by omega, rfl, rfl⟩⟩
  rw [ai_con5] at c2
  have c2 := fx_ble c2
  refine w_ld he hu rfl rfl rfl rfl rfl ?_
  refine w_dup he hu rfl rfl rfl ?_
  refine w_get (r := 0) he hu hI rfl rfl rfl rfl (gv_int (p := 12) hI rfl).1 ?_
  refine w_ld he hu rfl rfl rfl rfl rfl ?_
  refine w_bin hu rfl rfl (fun q => by omega) ?_
  rw [rop_add (by omega)]
  refine w_put (r := 0) he hu hI rfl rfl rfl rfl rfl rfl (by omega) (by omega) (by omega) (fun h1 u1 hI1 => ?_)
  have u1 : ru_upd h2 h1 12 (fc (gv h2 12 + x)) := u1
  have a1 : gv h1 12 = gv h2 12 + x := u1.at
  refine w_ld he hu rfl rfl rfl rfl rfl ?_
  refine w_get (r := 0) he hu hI1 rfl rfl rfl rfl (gv_int (p := 12) hI1 rfl).1 ?_
  exact w_iret he hu rfl rfl ⟨hI1, u1.fr (Or.inl rfl), Or.inl ⟨hx2, by omega, by rw [a1], a1⟩⟩
theorem lm_met (he : ai_env X B) {h : fx_H} (hI : ai_inv ai_T0 h) {x : Nat} (hx : x < 4294967296) (ht : gv h 274502 ≤ 100000) : rx_met l X Y B 106 (d + 1) [fr 67, fc x] h (la_K 274502 h x) := by
  refine ru_met (M := fm_106) rfl rfl (by simp [fm_106]) ?_
  have hu := hu_106
  have ex : fx_b x = (x + 2147483648) % 4294967296 := rfl
  have e1 : fx_b 1000 = 2147484648 := rb_small (by decide)
  have e0 : fx_b 0 = 2147483648 := rb_small (by decide)
  refine w_ld he hu rfl rfl rfl rfl rfl ?_
  refine w_c he hu rfl rfl rfl rfl ?_
  refine w_c he hu rfl rfl rfl rfl ?_
  refine w_callS he hu rfl rfl rfl rfl (in_met he) (fun v h2 q => ?_)
  obtain ⟨rfl, q⟩ := q
  rcases q with ⟨rfl, q1, q2⟩ | ⟨rfl, q1⟩
  rotate_left
  · refine w_cmp0 he hu rfl rfl rfl (ru_ne rfl) (fun c1 => ?_) (fun c1 => ?_)
    · refine w_c he hu rfl rfl rfl rfl ?_
      exact w_iret he hu rfl rfl ⟨hI, ai_fr_refl, Or.inr ⟨by omega, rfl, rfl⟩⟩
    · rw [rc_eq0 (by decide)] at c1
      cases c1
  have hx2 : x ≤ 1000 := by omega
  refine w_cmp0 he hu rfl rfl rfl (ru_ne rfl) (fun c1 => ?_) (fun c1 => ?_)
  · rw [rc_eq0 (by decide)] at c1
    cases c1
  refine w_ld he hu rfl rfl rfl rfl rfl ?_
  refine w_gi 274502 he hu hI rfl rfl rfl rfl ?_
  refine w_ld he hu rfl rfl rfl rfl rfl ?_
  refine w_bin hu rfl rfl (fun q => by omega) ?_
  rw [rop_add (by omega)]
  have es := rb_small (x := gv h2 274502 + x) (by omega)
  have ek : fx_b 100000 = 2147583648 := rb_small (by decide)
  refine w_c he hu rfl rfl rfl rfl ?_
  refine w_cmp he hu rfl rfl rfl (ru_ne rfl) (fun c2 => ?_) (fun c2 => ?_)
  rotate_left
  · rw [ai_con5] at c2
    have c2 := fx_nle c2
    refine w_c he hu rfl rfl rfl rfl ?_
    exact w_iret he hu rfl rfl ⟨hI, ai_fr_refl, Or.inr ⟨by omega, rfl, rfl⟩⟩
  rw [ai_con5] at c2
  have c2 := fx_ble c2
  refine w_ld he hu rfl rfl rfl rfl rfl ?_
  refine w_dup he hu rfl rfl rfl ?_
  refine w_gi 274502 he hu hI rfl rfl rfl rfl ?_
  refine w_ld he hu rfl rfl rfl rfl rfl ?_
  refine w_bin hu rfl rfl (fun q => by omega) ?_
  rw [rop_add (by omega)]
  refine w_pi 274502 he hu hI rfl rfl rfl rfl (by omega) (by omega) (by omega) (fun h1 u1 hI1 => ?_)
  have a1 : gv h1 274502 = gv h2 274502 + x := u1.at
  refine w_ld he hu rfl rfl rfl rfl rfl ?_
  refine w_gi 274502 he hu hI1 rfl rfl rfl rfl ?_
  exact w_iret he hu rfl rfl ⟨hI1, u1.fr (Or.inl rfl), Or.inl ⟨hx2, by omega, by rw [a1], a1⟩⟩
end LA
