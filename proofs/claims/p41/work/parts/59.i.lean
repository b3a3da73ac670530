theorem hu_258 : ru_u fm_258.1 = true := by decide +kernel
theorem hu_224 : ru_u fm_224.1 = true := by decide +kernel
section EE
variable {l : Launch} {X : fx_X} {Y : fx_Y} {B : fx_B} {d : Nat}
/-- units and what stands behind them, in turn -/
theorem ee_loop (he : ai_env X B) {b F U0 : Nat} (hb : b < 2) (hF1 : 560 * b ≤ F) (hF2 : F ≤ 560 * b + 9 * U0) {h0 : fx_H} : ∀ m h x w, x < 2 → pa_I b F U0 h0 h w → (gv h 274436 = 0 → w = x ∧ pa_mu h w < m) → ru l X Y B (d + 4) fm_258.1 19 [(1, fc x), (0, fr 67)] [] h (fun v h' => v = none ∧ ∃ w', pa_I b F U0 h0 h' w') := by
  have hu := hu_258
  intro m
  induction m with
  | zero =>
    intro h x w hx h1 hg
    have hI := h1.1
    refine w_ld he hu rfl rfl rfl rfl rfl ?_
    refine w_callM he hu hI rfl rfl rfl rfl (gd_met he hI) (fun v h2 q => ?_)
    obtain ⟨rfl, q⟩ := q
    rcases q with ⟨rfl, q⟩ | ⟨rfl, q⟩
    · have := (hg q).2
      omega
    · refine w_cmp0 he hu rfl rfl rfl (ru_ne rfl) (fun c1 => ?_) (fun c1 => by cases c1)
      exact w_vret he hu rfl ⟨rfl, w, h1⟩
  | succ m ih =>
    intro h x w hx h1 hg
    have hI := h1.1
    refine w_ld he hu rfl rfl rfl rfl rfl ?_
    refine w_callM he hu hI rfl rfl rfl rfl (gd_met he hI) (fun v h2 q => ?_)
    obtain ⟨rfl, q⟩ := q
    rcases q with ⟨rfl, q⟩ | ⟨rfl, q⟩
    · refine w_cmp0 he hu rfl rfl rfl (ru_ne rfl) (fun c1 => by cases c1) (fun c1 => ?_)
      obtain ⟨hw, hm⟩ := hg q
      subst hw
      obtain ⟨-, -, pd90⟩ := gv_nat (p := 274473) (lo := 0) (hi := 90) hI rfl (by decide)
      refine w_ld he hu rfl rfl rfl rfl rfl ?_
      refine w_gi 274473 he hu hI rfl rfl rfl rfl ?_
      refine w_cmp0 he hu rfl rfl rfl (ru_ne rfl) (fun c2 => ?_) (fun c2 => ?_)
      · exact w_vret he hu rfl ⟨rfl, w, h1⟩
      rw [rb_le0 (by omega)] at c2
      have c2 := fx_nle c2
      have s48 : ∀ v h3, pa_post b F U0 h0 (pa_mu h2 w) v h3 → ru l X Y B (d + 4) fm_258.1 48 [(1, fc w), (0, fr 67)] (fx_ret [] v) h3 (fun v h' => v = none ∧ ∃ w', pa_I b F U0 h0 h' w') := fun v h3 q3 => by
        obtain ⟨x3, rfl, hx3, w3, i3, j3⟩ := q3
        refine w_st he hu rfl rfl rfl rfl ?_
        refine w_go he hu rfl (ru_ne rfl) ?_
        exact ih h3 x3 w3 hx3 i3 (fun g => ⟨(j3 g).1, by have := (j3 g).2; omega⟩)
      refine w_ld he hu rfl rfl rfl rfl rfl ?_
      refine w_cmp0 he hu rfl rfl rfl (ru_ne rfl) (fun c3 => ?_) (fun c3 => ?_)
      · rw [rc_eq0 (by omega)] at c3
        have c3 := fx_beq c3
        subst c3
        refine w_ld he hu rfl rfl rfl rfl rfl ?_
        exact w_callM he hu hI rfl rfl rfl rfl (bu_met he hb hF1 hF2 h1 c2) (fun v h3 q3 => s48 v h3 q3)
      · rw [rc_eq0 (by omega)] at c3
        have c3 := fx_bnq c3
        have : w = 1 := by omega
        subst this
        refine w_ld he hu rfl rfl rfl rfl rfl ?_
        refine w_callM he hu hI rfl rfl rfl rfl (ut_met he hb hF1 hF2 h1 q c2) (fun v h3 q3 => ?_)
        refine w_go he hu rfl (ru_ne rfl) ?_
        exact s48 v h3 q3
    · refine w_cmp0 he hu rfl rfl rfl (ru_ne rfl) (fun c1 => ?_) (fun c1 => by cases c1)
      exact w_vret he hu rfl ⟨rfl, w, h1⟩
/-- a formula: from where its codes begin -/
theorem ee_met (he : ai_env X B) {b F U0 : Nat} (hb : b < 2) (hF1 : 560 * b ≤ F) (hF2 : F ≤ 560 * b + 9 * U0) {h : fx_H} (hI : ai_inv ai_T0 h) (hrb : gv h 274470 = b) (hend : gv h 274439 ≤ 1600) (hcd : gv h 274471 = F) (hun : gv h (75 * 4096 + b) = U0) (hu0 : gv h 274474 = 0) : rx_met l X Y B 258 (d + 4) [fr 67] h (fun v h' => v = none ∧ ∃ w', pa_I b F U0 h h' w') := by
  refine ru_met (M := fm_258) rfl rfl (by simp [fm_258]) ?_
  have hu := hu_258
  refine w_ld he hu rfl rfl rfl rfl rfl ?_
  refine w_c he hu rfl rfl rfl rfl ?_
  refine w_pi 274473 he hu hI rfl rfl rfl rfl (by decide) (by decide) (by decide) (fun h1 u1 hI1 => ?_)
  refine w_ld he hu rfl rfl rfl rfl rfl ?_
  refine w_c he hu rfl rfl rfl rfl ?_
  refine w_pi 274472 he hu hI1 rfl rfl rfl rfl (by decide) (by decide) (by decide) (fun h2 u2 hI2 => ?_)
  have e2 : gv h2 274473 = 0 := (u2.off (by decide)).trans u1.at
  refine w_ld he hu rfl rfl rfl rfl rfl ?_
  refine w_c he hu rfl rfl rfl rfl ?_
  refine w_c he hu rfl rfl rfl rfl ?_
  refine w_callM he hu hI2 rfl rfl rfl rfl (pe_met he hI2 (w := 8) (s := 0) (by decide) (by decide) (by omega)) (fun v h3 q => ?_)
  obtain ⟨rfl, hI3, q1, q2, q3, q4, q5⟩ := q
  rw [e2] at q1 q2 q3
  have f3 : ∀ p, ai_mem [274473] p = false → ai_mem [93, 94] (p / 4096) = false → gv h3 p = gv h2 p := fun p a b => gv_fr (q5 p a b)
  have fa : ∀ r i, (r = 91 ∨ r = 75) → i < 4096 → gv h3 (r * 4096 + i) = gv h (r * 4096 + i) := fun r i hr hi => (f3 _ (mo_mem_no (fun y hy e => by
    have : y = 274473 := by simpa using hy
    omega)) (by rw [ai_p1 hi]; rcases hr with rfl | rfl <;> rfl)).trans ((u2.off (by omega)).trans (u1.off (by omega)))
  have b1 : gv h3 274471 = F := (f3 _ rfl rfl).trans ((u2.off (by decide)).trans ((u1.off (by decide)).trans hcd))
  have b2 : gv h3 274474 = 0 := (f3 _ rfl rfl).trans ((u2.off (by decide)).trans ((u1.off (by decide)).trans hu0))
  have b3 : gv h3 274472 = 0 := (f3 _ rfl rfl).trans u2.at
  have b4 : gv h3 (75 * 4096 + b) = U0 := (fa 75 b (Or.inr rfl) (by omega)).trans hun
  refine w_c he hu rfl rfl rfl rfl ?_
  refine w_st he hu rfl rfl rfl rfl ?_
  have I3 : pa_I b F U0 h h3 1 := by
    refine ⟨hI3, (f3 _ rfl rfl).trans ((u2.off (by decide)).trans ((u1.off (by decide)).trans hrb)), by rw [f3 _ rfl rfl, u2.off (by decide), u1.off (by decide)]; exact hend, ai_fr_trans (u1.fr (Or.inl rfl)) (ai_fr_trans (u2.fr (Or.inl rfl)) (ai_fr_of q5 (by decide))), fun k k1 k2 => fa 91 k (Or.inl rfl) (by omega), ?_⟩
    rw [b1, b2, b3, b4, q1]
    have w8 : gv h3 (93 * 4096 + 0) = 8 := q2
    have cz : ∀ f : Nat → Nat, f 8 = 0 → pa_cnt f (fun k => gv h3 (93 * 4096 + k)) (0 + 1) = 0 := fun f hf => by
      show 0 + f (gv h3 (93 * 4096 + 0)) = 0
      rw [w8, hf]
    refine ⟨Nat.le_refl _, rfl, by decide, by decide, fun _ => w8, fun k k1 k2 => by omega, fun k k1 => ?_, ?_, ?_, ?_, ?_, fun _ => ?_, fun q => by omega, ?_⟩
    · have : k = 0 := by omega
      subst this
      show (gv h3 (93 * 4096 + 0) = 3 → _) ∧ (pa_eb (gv h3 (93 * 4096 + 0)) = 1 → _)
      rw [w8]
      exact ⟨fun q => (by cases q), fun q => (by cases q)⟩
    · rw [cz pa_en rfl, cz pa_ek rfl]
    · rw [cz pa_eb rfl]
      decide
    · rw [Nat.sub_self]
      trivial
    · rw [Nat.sub_self, cz pa_eb rfl]
      rfl
    · rw [Nat.sub_self, cz pa_eb rfl]
      decide
    · rw [cz pa_eb rfl]
      decide
  exact ru_sub [(1, fc 1), (0, fr 67)] ⟨rfl, rfl, trivial⟩ (ee_loop he hb hF1 hF2 (pa_mu h3 1 + 1) h3 1 1 (by decide) I3 (fun _ => ⟨rfl, Nat.lt_succ_self _⟩))
end EE
