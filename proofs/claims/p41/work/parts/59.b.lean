section PB
variable {l : Launch} {X : fx_X} {Y : fx_Y} {B : fx_B} {K : rx_K} {d : Nat}
theorem wd_met (he : ai_env X B) {h : fx_H} (hI : ai_inv ai_T0 h) : rx_met l X Y B 286 (d + 1) [fr 67] h (fun v h' => h' = h ∧ ∃ z, v = some (fc z) ∧ (z = 0 ∨ (97 ≤ z ∧ z ≤ 122))) := by
  refine ru_met (M := fm_286) rfl rfl (by simp [fm_286]) ?_
  have hu := hu_286
  refine w_ld he hu rfl rfl rfl rfl rfl ?_
  refine w_cl he hu rfl rfl ?_
  refine w_callM he hu hI rfl rfl rfl rfl (iw_met he hI) (fun v h1 q => ?_)
  obtain ⟨rfl, q⟩ := q
  rcases q with rfl | rfl
  case inr => exact w_cmp0 he hu rfl rfl rfl (ru_ne rfl) (fun c1 => by cases c1) (fun c1 => w_c he hu rfl rfl rfl rfl (w_iret he hu rfl rfl ⟨rfl, _, rfl, Or.inr ⟨by decide, by decide⟩⟩))
  refine w_cmp0 he hu rfl rfl rfl (ru_ne rfl) (fun c1 => ?_) (fun c1 => by cases c1)
  refine w_ld he hu rfl rfl rfl rfl rfl ?_
  refine w_cl he hu rfl rfl ?_
  refine w_callM he hu hI rfl rfl rfl rfl (iw_met he hI) (fun v h1 q => ?_)
  obtain ⟨rfl, q⟩ := q
  rcases q with rfl | rfl
  case inr => exact w_cmp0 he hu rfl rfl rfl (ru_ne rfl) (fun c1 => by cases c1) (fun c1 => w_c he hu rfl rfl rfl rfl (w_iret he hu rfl rfl ⟨rfl, _, rfl, Or.inr ⟨by decide, by decide⟩⟩))
  refine w_cmp0 he hu rfl rfl rfl (ru_ne rfl) (fun c1 => ?_) (fun c1 => by cases c1)
  refine w_ld he hu rfl rfl rfl rfl rfl ?_
  refine w_cl he hu rfl rfl ?_
  refine w_callM he hu hI rfl rfl rfl rfl (iw_met he hI) (fun v h1 q => ?_)
  obtain ⟨rfl, q⟩ := q
  rcases q with rfl | rfl
  case inr => exact w_cmp0 he hu rfl rfl rfl (ru_ne rfl) (fun c1 => by cases c1) (fun c1 => w_c he hu rfl rfl rfl rfl (w_iret he hu rfl rfl ⟨rfl, _, rfl, Or.inr ⟨by decide, by decide⟩⟩))
  refine w_cmp0 he hu rfl rfl rfl (ru_ne rfl) (fun c1 => ?_) (fun c1 => by cases c1)
  refine w_ld he hu rfl rfl rfl rfl rfl ?_
  refine w_cl he hu rfl rfl ?_
  refine w_callM he hu hI rfl rfl rfl rfl (iw_met he hI) (fun v h1 q => ?_)
  obtain ⟨rfl, q⟩ := q
  rcases q with rfl | rfl
  case inr => exact w_cmp0 he hu rfl rfl rfl (ru_ne rfl) (fun c1 => by cases c1) (fun c1 => w_c he hu rfl rfl rfl rfl (w_iret he hu rfl rfl ⟨rfl, _, rfl, Or.inr ⟨by decide, by decide⟩⟩))
  refine w_cmp0 he hu rfl rfl rfl (ru_ne rfl) (fun c1 => ?_) (fun c1 => by cases c1)
  refine w_ld he hu rfl rfl rfl rfl rfl ?_
  refine w_cl he hu rfl rfl ?_
  refine w_callM he hu hI rfl rfl rfl rfl (iw_met he hI) (fun v h1 q => ?_)
  obtain ⟨rfl, q⟩ := q
  rcases q with rfl | rfl
  case inr => exact w_cmp0 he hu rfl rfl rfl (ru_ne rfl) (fun c1 => by cases c1) (fun c1 => w_c he hu rfl rfl rfl rfl (w_iret he hu rfl rfl ⟨rfl, _, rfl, Or.inr ⟨by decide, by decide⟩⟩))
  refine w_cmp0 he hu rfl rfl rfl (ru_ne rfl) (fun c1 => ?_) (fun c1 => by cases c1)
  refine w_ld he hu rfl rfl rfl rfl rfl ?_
  refine w_cl he hu rfl rfl ?_
  refine w_callM he hu hI rfl rfl rfl rfl (iw_met he hI) (fun v h1 q => ?_)
  obtain ⟨rfl, q⟩ := q
  rcases q with rfl | rfl
  case inr => exact w_cmp0 he hu rfl rfl rfl (ru_ne rfl) (fun c1 => by cases c1) (fun c1 => w_c he hu rfl rfl rfl rfl (w_iret he hu rfl rfl ⟨rfl, _, rfl, Or.inr ⟨by decide, by decide⟩⟩))
  refine w_cmp0 he hu rfl rfl rfl (ru_ne rfl) (fun c1 => ?_) (fun c1 => by cases c1)
  refine w_ld he hu rfl rfl rfl rfl rfl ?_
  refine w_cl he hu rfl rfl ?_
  refine w_callM he hu hI rfl rfl rfl rfl (iw_met he hI) (fun v h1 q => ?_)
  obtain ⟨rfl, q⟩ := q
  rcases q with rfl | rfl
  case inr => exact w_cmp0 he hu rfl rfl rfl (ru_ne rfl) (fun c1 => by cases c1) (fun c1 => w_c he hu rfl rfl rfl rfl (w_iret he hu rfl rfl ⟨rfl, _, rfl, Or.inr ⟨by decide, by decide⟩⟩))
  refine w_cmp0 he hu rfl rfl rfl (ru_ne rfl) (fun c1 => ?_) (fun c1 => by cases c1)
  refine w_ld he hu rfl rfl rfl rfl rfl ?_
  refine w_cl he hu rfl rfl ?_
  refine w_callM he hu hI rfl rfl rfl rfl (iw_met he hI) (fun v h1 q => ?_)
  obtain ⟨rfl, q⟩ := q
  rcases q with rfl | rfl
  case inr => exact w_cmp0 he hu rfl rfl rfl (ru_ne rfl) (fun c1 => by cases c1) (fun c1 => w_c he hu rfl rfl rfl rfl (w_iret he hu rfl rfl ⟨rfl, _, rfl, Or.inr ⟨by decide, by decide⟩⟩))
  refine w_cmp0 he hu rfl rfl rfl (ru_ne rfl) (fun c1 => ?_) (fun c1 => by cases c1)
  refine w_ld he hu rfl rfl rfl rfl rfl ?_
  refine w_cl he hu rfl rfl ?_
  refine w_callM he hu hI rfl rfl rfl rfl (iw_met he hI) (fun v h1 q => ?_)
  obtain ⟨rfl, q⟩ := q
  rcases q with rfl | rfl
  case inr => exact w_cmp0 he hu rfl rfl rfl (ru_ne rfl) (fun c1 => by cases c1) (fun c1 => w_c he hu rfl rfl rfl rfl (w_go he hu rfl (ru_ne rfl) (w_iret he hu rfl rfl ⟨rfl, _, rfl, Or.inr ⟨by decide, by decide⟩⟩)))
  refine w_cmp0 he hu rfl rfl rfl (ru_ne rfl) (fun c1 => ?_) (fun c1 => by cases c1)
  refine w_c he hu rfl rfl rfl rfl ?_
  exact w_iret he hu rfl rfl ⟨rfl, _, rfl, Or.inl rfl⟩
/-- what is so of a sign that joins two -/
def mo_js (s : Nat) : Prop := s ≠ 126 ∧ ¬ (97 ≤ s ∧ s ≤ 122) ∧ s ≤ 255
theorem rk_met (he : ai_env X B) {h : fx_H} (hI : ai_inv ai_T0 h) : rx_met l X Y B 288 (d + 2) [fr 67] h (fun v h' => h' = h ∧ ∃ z, v = some (fc z) ∧ (z = 0 ∨ z = 1 ∨ z = 2 ∨ ((z = 4 ∨ z = 5 ∨ z = 6) ∧ mo_js (mo_sg h (gv h 274438))))) := by
  refine ru_met (M := fm_288) rfl rfl (by simp [fm_288]) ?_
  have hu := hu_288
  refine w_ld he hu rfl rfl rfl rfl rfl ?_
  refine w_cl he hu rfl rfl ?_
  refine w_callM he hu hI rfl rfl rfl rfl (iw_met he hI) (fun v h1 q => ?_)
  obtain ⟨rfl, q⟩ := q
  rcases q with rfl | rfl
  case inr => exact w_cmp0 he hu rfl rfl rfl (ru_ne rfl) (fun c1 => by cases c1) (fun c1 => w_c he hu rfl rfl rfl rfl (w_iret he hu rfl rfl ⟨rfl, _, rfl, Or.inr (Or.inr (Or.inl rfl))⟩))
  refine w_cmp0 he hu rfl rfl rfl (ru_ne rfl) (fun c1 => ?_) (fun c1 => by cases c1)
  refine w_ld he hu rfl rfl rfl rfl rfl ?_
  refine w_cl he hu rfl rfl ?_
  refine w_callM he hu hI rfl rfl rfl rfl (iw_met he hI) (fun v h1 q => ?_)
  obtain ⟨rfl, q⟩ := q
  rcases q with rfl | rfl
  case inr => exact w_cmp0 he hu rfl rfl rfl (ru_ne rfl) (fun c1 => by cases c1) (fun c1 => w_c he hu rfl rfl rfl rfl (w_iret he hu rfl rfl ⟨rfl, _, rfl, Or.inr (Or.inl rfl)⟩))
  refine w_cmp0 he hu rfl rfl rfl (ru_ne rfl) (fun c1 => ?_) (fun c1 => by cases c1)
  refine w_ld he hu rfl rfl rfl rfl rfl ?_
  refine w_c he hu rfl rfl rfl rfl ?_
  refine w_callM he hu hI rfl rfl rfl rfl (sh_met he hI (by decide)) (fun v h1 q => ?_)
  obtain ⟨rfl, q⟩ := q
  rcases q with ⟨rfl, q⟩ | rfl
  case inl =>
    have js : mo_js (mo_sg h1 (gv h1 274438)) := by
      rw [q]
      exact ⟨by decide, by decide, by decide⟩
    exact w_cmp0 he hu rfl rfl rfl (ru_ne rfl) (fun c1 => w_c he hu rfl rfl rfl rfl (w_iret he hu rfl rfl ⟨rfl, _, rfl, Or.inr (Or.inr (Or.inr ⟨Or.inl rfl, js⟩))⟩)) (fun c1 => by cases c1)
  refine w_cmp0 he hu rfl rfl rfl (ru_ne rfl) (fun c1 => by cases c1) (fun c1 => ?_)
  refine w_ld he hu rfl rfl rfl rfl rfl ?_
  refine w_c he hu rfl rfl rfl rfl ?_
  refine w_callM he hu hI rfl rfl rfl rfl (sh_met he hI (by decide)) (fun v h1 q => ?_)
  obtain ⟨rfl, q⟩ := q
  rcases q with ⟨rfl, q⟩ | rfl
  case inl =>
    have js : mo_js (mo_sg h1 (gv h1 274438)) := by
      rw [q]
      exact ⟨by decide, by decide, by decide⟩
    exact w_cmp0 he hu rfl rfl rfl (ru_ne rfl) (fun c1 => w_c he hu rfl rfl rfl rfl (w_iret he hu rfl rfl ⟨rfl, _, rfl, Or.inr (Or.inr (Or.inr ⟨Or.inl rfl, js⟩))⟩)) (fun c1 => by cases c1)
  refine w_cmp0 he hu rfl rfl rfl (ru_ne rfl) (fun c1 => by cases c1) (fun c1 => ?_)
  refine w_ld he hu rfl rfl rfl rfl rfl ?_
  refine w_c he hu rfl rfl rfl rfl ?_
  refine w_callM he hu hI rfl rfl rfl rfl (sh_met he hI (by decide)) (fun v h1 q => ?_)
  obtain ⟨rfl, q⟩ := q
  rcases q with ⟨rfl, q⟩ | rfl
  case inl =>
    have js : mo_js (mo_sg h1 (gv h1 274438)) := by
      rw [q]
      exact ⟨by decide, by decide, by decide⟩
    exact w_cmp0 he hu rfl rfl rfl (ru_ne rfl) (fun c1 => by cases c1) (fun c1 => w_c he hu rfl rfl rfl rfl (w_iret he hu rfl rfl ⟨rfl, _, rfl, Or.inr (Or.inr (Or.inr ⟨Or.inl rfl, js⟩))⟩))
  refine w_cmp0 he hu rfl rfl rfl (ru_ne rfl) (fun c1 => ?_) (fun c1 => by cases c1)
  refine w_ld he hu rfl rfl rfl rfl rfl ?_
  refine w_c he hu rfl rfl rfl rfl ?_
  refine w_callM he hu hI rfl rfl rfl rfl (sh_met he hI (by decide)) (fun v h1 q => ?_)
  obtain ⟨rfl, q⟩ := q
  rcases q with ⟨rfl, q⟩ | rfl
  case inl =>
    have js : mo_js (mo_sg h1 (gv h1 274438)) := by
      rw [q]
      exact ⟨by decide, by decide, by decide⟩
    exact w_cmp0 he hu rfl rfl rfl (ru_ne rfl) (fun c1 => w_c he hu rfl rfl rfl rfl (w_iret he hu rfl rfl ⟨rfl, _, rfl, Or.inr (Or.inr (Or.inr ⟨Or.inr (Or.inl rfl), js⟩))⟩)) (fun c1 => by cases c1)
  refine w_cmp0 he hu rfl rfl rfl (ru_ne rfl) (fun c1 => by cases c1) (fun c1 => ?_)
  refine w_ld he hu rfl rfl rfl rfl rfl ?_
  refine w_c he hu rfl rfl rfl rfl ?_
  refine w_callM he hu hI rfl rfl rfl rfl (sh_met he hI (by decide)) (fun v h1 q => ?_)
  obtain ⟨rfl, q⟩ := q
  rcases q with ⟨rfl, q⟩ | rfl
  case inl =>
    have js : mo_js (mo_sg h1 (gv h1 274438)) := by
      rw [q]
      exact ⟨by decide, by decide, by decide⟩
    exact w_cmp0 he hu rfl rfl rfl (ru_ne rfl) (fun c1 => by cases c1) (fun c1 => w_c he hu rfl rfl rfl rfl (w_iret he hu rfl rfl ⟨rfl, _, rfl, Or.inr (Or.inr (Or.inr ⟨Or.inr (Or.inl rfl), js⟩))⟩))
  refine w_cmp0 he hu rfl rfl rfl (ru_ne rfl) (fun c1 => ?_) (fun c1 => by cases c1)
  refine w_ld he hu rfl rfl rfl rfl rfl ?_
  refine w_c he hu rfl rfl rfl rfl ?_
  refine w_callM he hu hI rfl rfl rfl rfl (sh_met he hI (by decide)) (fun v h1 q => ?_)
  obtain ⟨rfl, q⟩ := q
  rcases q with ⟨rfl, q⟩ | rfl
  case inl =>
    have js : mo_js (mo_sg h1 (gv h1 274438)) := by
      rw [q]
      exact ⟨by decide, by decide, by decide⟩
    exact w_cmp0 he hu rfl rfl rfl (ru_ne rfl) (fun c1 => w_c he hu rfl rfl rfl rfl (w_go he hu rfl (ru_ne rfl) (w_iret he hu rfl rfl ⟨rfl, _, rfl, Or.inr (Or.inr (Or.inr ⟨Or.inr (Or.inr rfl), js⟩))⟩))) (fun c1 => by cases c1)
  refine w_cmp0 he hu rfl rfl rfl (ru_ne rfl) (fun c1 => by cases c1) (fun c1 => ?_)
  refine w_ld he hu rfl rfl rfl rfl rfl ?_
  refine w_c he hu rfl rfl rfl rfl ?_
  refine w_callM he hu hI rfl rfl rfl rfl (sh_met he hI (by decide)) (fun v h1 q => ?_)
  obtain ⟨rfl, q⟩ := q
  rcases q with ⟨rfl, q⟩ | rfl
  case inl =>
    have js : mo_js (mo_sg h1 (gv h1 274438)) := by
      rw [q]
      exact ⟨by decide, by decide, by decide⟩
    exact w_cmp0 he hu rfl rfl rfl (ru_ne rfl) (fun c1 => w_c he hu rfl rfl rfl rfl (w_go he hu rfl (ru_ne rfl) (w_iret he hu rfl rfl ⟨rfl, _, rfl, Or.inr (Or.inr (Or.inr ⟨Or.inr (Or.inr rfl), js⟩))⟩))) (fun c1 => by cases c1)
  refine w_cmp0 he hu rfl rfl rfl (ru_ne rfl) (fun c1 => by cases c1) (fun c1 => ?_)
  refine w_ld he hu rfl rfl rfl rfl rfl ?_
  refine w_c he hu rfl rfl rfl rfl ?_
  refine w_callM he hu hI rfl rfl rfl rfl (sh_met he hI (by decide)) (fun v h1 q => ?_)
  obtain ⟨rfl, q⟩ := q
  rcases q with ⟨rfl, q⟩ | rfl
  case inl =>
    have js : mo_js (mo_sg h1 (gv h1 274438)) := by
      rw [q]
      exact ⟨by decide, by decide, by decide⟩
    exact w_cmp0 he hu rfl rfl rfl (ru_ne rfl) (fun c1 => by cases c1) (fun c1 => w_c he hu rfl rfl rfl rfl (w_go he hu rfl (ru_ne rfl) (w_iret he hu rfl rfl ⟨rfl, _, rfl, Or.inr (Or.inr (Or.inr ⟨Or.inr (Or.inr rfl), js⟩))⟩)))
  refine w_cmp0 he hu rfl rfl rfl (ru_ne rfl) (fun c1 => ?_) (fun c1 => by cases c1)
  refine w_c he hu rfl rfl rfl rfl ?_
  exact w_iret he hu rfl rfl ⟨rfl, _, rfl, Or.inl rfl⟩
theorem cp_loop (he : ai_env X B) {h : fx_H} (hI : ai_inv ai_T0 h) (h0 : gv h (93 * 4096 + 0) = 8) : ∀ k, k < 90 → ru l X Y B d fm_289.1 7 [(1, fc k), (0, fr 67)] [] h (fun v h' => h' = h ∧ (v = some (fc 0) ∨ v = some (fc 1))) := by
  have hu := hu_289
  intro k
  induction k with
  | zero =>
    intro _
    refine w_ld he hu rfl rfl rfl rfl rfl ?_
    refine w_gr 274466 93 he hu hI rfl rfl rfl rfl ?_
    refine w_ld he hu rfl rfl rfl rfl rfl ?_
    refine w_ald he hu hI rfl rfl rfl rfl (by decide) ?_
    rw [h0]
    refine w_c he hu rfl rfl rfl rfl ?_
    refine w_cmp he hu rfl rfl rfl (ru_ne rfl) (fun c1 => by cases c1) (fun c1 => ?_)
    refine w_ld he hu rfl rfl rfl rfl rfl ?_
    refine w_gr 274466 93 he hu hI rfl rfl rfl rfl ?_
    refine w_ld he hu rfl rfl rfl rfl rfl ?_
    refine w_ald he hu hI rfl rfl rfl rfl (by decide) ?_
    rw [h0]
    refine w_c he hu rfl rfl rfl rfl ?_
    refine w_cmp he hu rfl rfl rfl (ru_ne rfl) (fun c1 => ?_) (fun c1 => by cases c1)
    refine w_ld he hu rfl rfl rfl rfl rfl ?_
    refine w_gr 274466 93 he hu hI rfl rfl rfl rfl ?_
    refine w_ld he hu rfl rfl rfl rfl rfl ?_
    refine w_ald he hu hI rfl rfl rfl rfl (by decide) ?_
    rw [h0]
    refine w_c he hu rfl rfl rfl rfl ?_
    refine w_cmp he hu rfl rfl rfl (ru_ne rfl) (fun c1 => ?_) (fun c1 => by cases c1)
    refine w_c he hu rfl rfl rfl rfl ?_
    exact w_iret he hu rfl rfl ⟨rfl, Or.inl rfl⟩
  | succ k ih =>
    intro hk
    have back : ru l X Y B d fm_289.1 28 [(1, fc (k + 1)), (0, fr 67)] [] h (fun v h' => h' = h ∧ (v = some (fc 0) ∨ v = some (fc 1))) := by
      refine w_inc he hu rfl rfl rfl ?_
      rw [show Nat.mod (Nat.add (k + 1) 4294967295) 4294967296 = k by show (k + 1 + 4294967295) % 4294967296 = k; omega]
      refine w_go he hu rfl (ru_ne rfl) ?_
      exact ih (by omega)
    refine w_ld he hu rfl rfl rfl rfl rfl ?_
    refine w_gr 274466 93 he hu hI rfl rfl rfl rfl ?_
    refine w_ld he hu rfl rfl rfl rfl rfl ?_
    refine w_ald he hu hI rfl rfl rfl rfl (by omega) ?_
    refine w_c he hu rfl rfl rfl rfl ?_
    refine w_cmp he hu rfl rfl rfl (ru_ne rfl) (fun c1 => back) (fun c1 => ?_)
    refine w_ld he hu rfl rfl rfl rfl rfl ?_
    refine w_gr 274466 93 he hu hI rfl rfl rfl rfl ?_
    refine w_ld he hu rfl rfl rfl rfl rfl ?_
    refine w_ald he hu hI rfl rfl rfl rfl (by omega) ?_
    refine w_c he hu rfl rfl rfl rfl ?_
    refine w_cmp he hu rfl rfl rfl (ru_ne rfl) (fun c2 => ?_) (fun c2 => back)
    refine w_ld he hu rfl rfl rfl rfl rfl ?_
    refine w_gr 274466 93 he hu hI rfl rfl rfl rfl ?_
    refine w_ld he hu rfl rfl rfl rfl rfl ?_
    refine w_ald he hu hI rfl rfl rfl rfl (by omega) ?_
    refine w_c he hu rfl rfl rfl rfl ?_
    refine w_cmp he hu rfl rfl rfl (ru_ne rfl) (fun c3 => ?_) (fun c3 => ?_)
    · refine w_c he hu rfl rfl rfl rfl ?_
      exact w_iret he hu rfl rfl ⟨rfl, Or.inl rfl⟩
    · refine w_c he hu rfl rfl rfl rfl ?_
      refine w_go he hu rfl (ru_ne rfl) ?_
      exact w_iret he hu rfl rfl ⟨rfl, Or.inr rfl⟩
theorem cp_met (he : ai_env X B) {h : fx_H} (hI : ai_inv ai_T0 h) (h0 : gv h (93 * 4096 + 0) = 8) (h1 : 1 ≤ gv h 274473) (h2 : gv h 274473 ≤ 90) : rx_met l X Y B 289 d [fr 67] h (fun v h' => h' = h ∧ (v = some (fc 0) ∨ v = some (fc 1))) := by
  refine ru_met (M := fm_289) rfl rfl (by simp [fm_289]) ?_
  have hu := hu_289
  refine w_ld he hu rfl rfl rfl rfl rfl ?_
  refine w_gi 274473 he hu hI rfl rfl rfl rfl ?_
  refine w_c he hu rfl rfl rfl rfl ?_
  refine w_bin hu rfl rfl (fun q => by omega) ?_
  rw [rop_sub (by omega) (by omega)]
  refine w_st he hu rfl rfl rfl rfl ?_
  exact cp_loop he hI h0 _ (by omega)
end PB
