section XC
variable {l : Launch} {X : fx_X} {Y : fx_Y} {B : fx_B} {K : rx_K} {d : Nat}
/-- a row of was and what is so now change places -/
theorem xc_loop (he : ai_env X B) : ∀ n k h, n + k = 17 → ai_inv ai_T0 h → gv h 274485 ≤ 40 → (∀ h', ai_inv ai_T0 h' → ai_fr ([], [96, 98]) h h' → K none h') → ru l X Y B d fm_161.1 2 [(1, fc k), (0, fr 67)] [] h K := by
  have hu := hu_161
  intro n
  induction n with
  | zero =>
    intro k h hk hI ha kk
    refine w_ld he hu rfl rfl rfl rfl rfl ?_
    refine w_c he hu rfl rfl rfl rfl ?_
    refine w_cmp he hu rfl rfl rfl (ru_ne rfl) (fun c1 => ?_) (fun c1 => ?_)
    · exact w_vret he hu rfl (kk h hI ai_fr_refl)
    · rw [rc_ge (by omega) (by omega)] at c1
      have := fx_nle c1
      omega
  | succ n ih =>
    intro k h hk hI ha kk
    refine w_ld he hu rfl rfl rfl rfl rfl ?_
    refine w_c he hu rfl rfl rfl rfl ?_
    refine w_cmp he hu rfl rfl rfl (ru_ne rfl) (fun c1 => ?_) (fun c1 => ?_)
    · rw [rc_ge (by omega) (by omega)] at c1
      have := fx_ble c1
      omega
    · refine w_ld he hu rfl rfl rfl rfl rfl ?_
      refine w_gr 274484 98 he hu hI rfl rfl rfl rfl ?_
      refine w_c he hu rfl rfl rfl rfl ?_
      refine w_ld he hu rfl rfl rfl rfl rfl ?_
      refine w_gi 274485 he hu hI rfl rfl rfl rfl ?_
      refine w_bin hu rfl rfl (fun q => by omega) ?_
      refine w_ld he hu rfl rfl rfl rfl rfl ?_
      refine w_bin hu rfl rfl (fun q => by omega) ?_
      rw [rop_mul (by omega), rop_add (by omega)]
      refine w_ald he hu hI rfl rfl rfl rfl (by omega) ?_
      obtain ⟨p, p1, p2, p3, p4⟩ := mo_row (r := 98) (len := 697) hI rfl (by decide) (i := 17 * gv h 274485 + k) (by omega) (j := k) (by omega)
      refine w_st he hu rfl rfl rfl rfl ?_
      refine w_ld he hu rfl rfl rfl rfl rfl ?_
      refine w_gr 274484 98 he hu hI rfl rfl rfl rfl ?_
      refine w_c he hu rfl rfl rfl rfl ?_
      refine w_ld he hu rfl rfl rfl rfl rfl ?_
      refine w_gi 274485 he hu hI rfl rfl rfl rfl ?_
      refine w_bin hu rfl rfl (fun q => by omega) ?_
      refine w_ld he hu rfl rfl rfl rfl rfl ?_
      refine w_bin hu rfl rfl (fun q => by omega) ?_
      rw [rop_mul (by omega), rop_add (by omega)]
      refine w_ld he hu rfl rfl rfl rfl rfl ?_
      refine w_gr 274482 96 he hu hI rfl rfl rfl rfl ?_
      refine w_ld he hu rfl rfl rfl rfl rfl ?_
      refine w_ald he hu hI rfl rfl rfl rfl (by omega) ?_
      obtain ⟨q, q1, q2, q3, q4⟩ := mo_row (r := 96) (len := 17) hI rfl (by decide) (i := k) (by omega) (j := 17 * gv h 274485 + k) (by omega)
      refine w_ast he hu hI rfl rfl rfl rfl (by omega) q1 q2 q3 q4 (fun h1 u1 hI1 => ?_)
      refine w_ld he hu rfl rfl rfl rfl rfl ?_
      refine w_gr 274482 96 he hu hI1 rfl rfl rfl rfl ?_
      refine w_ld he hu rfl rfl rfl rfl rfl ?_
      refine w_ld he hu rfl rfl rfl rfl rfl ?_
      refine w_ast he hu hI1 rfl rfl rfl rfl (by omega) p1 p2 p3 p4 (fun h2 u2 hI2 => ?_)
      refine w_inc he hu rfl rfl rfl ?_
      rw [rm_inc (by omega)]
      refine w_go he hu rfl (ru_ne rfl) ?_
      have f1 : ai_fr ([], [96, 98]) h h1 := u1.fr (Or.inr (by rw [show (98 * 4096 + (17 * gv h 274485 + k)) / 4096 = 98 by omega]; rfl))
      have f2 : ai_fr ([], [96, 98]) h1 h2 := u2.fr (Or.inr (by rw [show (96 * 4096 + k) / 4096 = 96 by omega]; rfl))
      refine ru_sub [(1, fc (k + 1)), (0, fr 67)] ⟨rfl, rfl, trivial⟩ (ih (k + 1) h2 (by omega) hI2 ?_ (fun h' i1 i2 => kk h' i1 (ai_fr_trans f1 (ai_fr_trans f2 i2))))
      rw [u2.off (by omega), u1.off (by omega)]
      exact ha
theorem xc_met (he : ai_env X B) {h : fx_H} (hI : ai_inv ai_T0 h) (ha : gv h 274485 ≤ 40) : rx_met l X Y B 161 d [fr 67] h (fun v h' => v = none ∧ ai_inv ai_T0 h' ∧ ai_fr ([], [96, 98]) h h') := by
  refine ru_met (M := fm_161) rfl rfl (by simp [fm_161]) ?_
  have hu := hu_161
  refine w_c he hu rfl rfl rfl rfl ?_
  refine w_st he hu rfl rfl rfl rfl ?_
  exact xc_loop he 17 0 h rfl hI ha (fun h' i1 i2 => ⟨rfl, i1, i2⟩)
end XC
