section UU
variable {l : Launch} {X : fx_X} {Y : fx_Y} {B : fx_B} {d : Nat}
/-- a unit may stand here -/
theorem ut_rest (he : ai_env X B) {b F U0 : Nat} (hb : b < 2) (hF1 : 560 * b ≤ F) (hF2 : F ≤ 560 * b + 9 * U0) {h0 h : fx_H} {nt br z fu bg : Nat} (h1 : pa_I b F U0 h0 h 1) (hg : gv h 274436 = 0) (hpd : 1 ≤ gv h 274473) (hnt : nt < 2) (hbr : br < 2) (hz : z = 0 ∨ (97 ≤ z ∧ z ≤ 122)) (hc : (nt = 1 ∧ gv h 274472 ≠ 7) ∨ (nt = 0 ∧ gv h (75 * 4096 + b) ≠ 60 ∧ gv h 274474 ≠ 30 ∧ (br = 1 → gv h 274472 ≠ 7))) : ru l X Y B (d + 3) fm_282.1 147 [(5, fc fu), (4, fc z), (3, fc br), (2, fc nt), (1, fc bg), (0, fr 67)] [] h (pa_post b F U0 h0 (pa_mu h 1)) := by
  have hu := hu_282
  have h1' := h1
  obtain ⟨hI, g2, g3, g4, g5, g6⟩ := h1
  obtain ⟨p1, p2, p3, p4, p5, p6, p7, p8, p9, p10, p11, p12, p13, p14⟩ := g6
  obtain ⟨-, -, un60⟩ := gv_nat (p := 75 * 4096 + b) (lo := 0) (hi := 60) hI (by rcases (by omega : b = 0 ∨ b = 1) with rfl | rfl <;> rfl) (by decide)
  obtain ⟨-, -, wi7⟩ := gv_nat (p := 274472) (lo := 0) (hi := 7) hI rfl (by decide)
  refine w_ld he hu rfl rfl rfl rfl rfl ?_
  refine w_callM he hu hI rfl rfl rfl rfl (gd_met he hI) (fun v hx q => ?_)
  obtain ⟨rfl, q⟩ := q
  rcases q with ⟨rfl, -⟩ | ⟨rfl, q⟩
  case inr => exact absurd hg q
  refine w_cmp0 he hu rfl rfl rfl (ru_ne rfl) (fun c1 => ?_) (fun c1 => by cases c1)
  refine w_ld he hu rfl rfl rfl rfl rfl ?_
  refine w_gr 274448 75 he hu hI rfl rfl rfl rfl ?_
  refine w_ld he hu rfl rfl rfl rfl rfl ?_
  refine w_gi 274470 he hu hI rfl rfl rfl rfl ?_
  rw [g2]
  refine w_dup2 he hu rfl rfl rfl rfl ?_
  refine w_ald he hu hI rfl rfl rfl rfl (by omega) ?_
  obtain ⟨inc, hinc⟩ : ∃ inc, inc + nt = 1 := ⟨1 - nt, by omega⟩
  have hun : gv hx (75 * 4096 + b) + inc ≤ 60 := by omega
  have hu30 : gv hx 274474 + inc ≤ 30 := by omega
  -- behind the two sums
  have s177 : ∀ h2, ai_inv ai_T0 h2 → ru_upd hx h2 (75 * 4096 + b) (fc (gv hx (75 * 4096 + b) + inc)) → ru l X Y B (d + 3) fm_282.1 177 [(5, fc fu), (4, fc z), (3, fc br), (2, fc nt), (1, fc bg), (0, fr 67)] [] h2 (pa_post b F U0 h0 (pa_mu hx 1)) := fun h2 hI2 u2 => by
    have s192 : ru l X Y B (d + 3) fm_282.1 191 [(5, fc fu), (4, fc z), (3, fc br), (2, fc nt), (1, fc bg), (0, fr 67)] [fc inc, fc (gv h2 274474), fr 67] h2 (pa_post b F U0 h0 (pa_mu hx 1)) := by
      refine w_bin hu rfl rfl (fun q => by omega) ?_
      have e0 : gv h2 274474 = gv hx 274474 := u2.off (by omega)
      rw [e0, rop_add (by omega)]
      have eb := rb_small (x := gv hx 274474 + inc) (by omega)
      refine w_pi 274474 he hu hI2 rfl rfl rfl rfl (by omega) (by omega) (by omega) (fun h3 u3 hI3 => ?_)
      -- what number stands there
      have s208 : ∀ n, n < 4294967296 → ru l X Y B (d + 3) fm_282.1 208 [(5, fc fu), (4, fc z), (3, fc br), (2, fc nt), (1, fc bg), (0, fr 67)] [fc n] h3 (pa_post b F U0 h0 (pa_mu hx 1)) := fun n hn => by
        refine w_st he hu rfl rfl rfl rfl ?_
        refine w_ld he hu rfl rfl rfl rfl rfl ?_
        have e3 : gv h3 274439 = gv hx 274439 := (u3.off (by decide)).trans (u2.off (by omega))
        refine w_callM he hu hI3 rfl rfl rfl rfl (go_met he hI3 (by omega)) (fun v h4 q => ?_)
        obtain ⟨rfl, hI4, q1, q2⟩ := q
        have ff : ∀ p, ai_mem [274438, 274439, 274440, 274441, 274442] p = false → gv h4 p = gv h3 p := fun p a => gv_fr (q2 p a rfl)
        have a1 : gv h4 274471 = gv hx 274471 := (ff _ rfl).trans ((u3.off (by decide)).trans (u2.off (by omega)))
        have a2 : gv h4 (75 * 4096 + b) = gv hx (75 * 4096 + b) + inc := (fld_arr (by decide) q2 (by decide) (by omega)).trans ((u3.off (by omega)).trans u2.at)
        have a3 : gv h4 274474 = gv hx 274474 + inc := (ff _ rfl).trans u3.at
        have a4 : gv h4 274473 = gv hx 274473 := (ff _ rfl).trans ((u3.off (by decide)).trans (u2.off (by omega)))
        have a5 : gv h4 274472 = gv hx 274472 := (ff _ rfl).trans ((u3.off (by decide)).trans (u2.off (by omega)))
        have a6 : gv h4 274470 = b := (ff _ rfl).trans ((u3.off (by decide)).trans ((u2.off (by omega)).trans g2))
        have aa : ∀ r i, (r = 91 ∨ r = 93 ∨ r = 94) → i < 4096 → gv h4 (r * 4096 + i) = gv hx (r * 4096 + i) := fun r i hr hi => (fld_arr (by decide) q2 (by omega) hi).trans ((u3.off (by omega)).trans (u2.off (by omega)))
        have af : ai_fr pa_m hx h4 := ai_fr_trans (u2.fr (Or.inr (by rw [ai_p1 (by omega)]; rfl))) (ai_fr_trans (u3.fr (Or.inl rfl)) (ai_fr_of q2 (by decide)))
        refine w_ld he hu rfl rfl rfl rfl rfl ?_
        refine w_cmp0 he hu rfl rfl rfl (ru_ne rfl) (fun c2 => ?_) (fun c2 => ?_)
        · rw [rc_ne0 (by omega)] at c2
          have c2 := bb_ne c2
          exact ut_push he hb hF1 hF2 h1' hpd hnt hinc hu30 (by omega) hI4 a1 a2 a3 a4 a5 a6 q1 aa af
        · rw [rc_ne0 (by omega)] at c2
          have c2 := bb_eq c2
          refine w_ld he hu rfl rfl rfl rfl rfl ?_
          refine w_cmp0 he hu rfl rfl rfl (ru_ne rfl) (fun c3 => ?_) (fun c3 => ?_)
          · have i1 : inc = 1 := by omega
            subst i1
            exact ut_emit he hb hF1 hF2 h1' hpd hz hn hu30 hI4 a1 a2 a3 a4 a5 a6 q1 aa af
          · rw [rc_eq0 (by omega)] at c3
            have c3 := fx_bnq c3
            exact ut_push he hb hF1 hF2 h1' hpd hnt hinc hu30 (by omega) hI4 a1 a2 a3 a4 a5 a6 q1 aa af
      refine w_ld he hu rfl rfl rfl rfl rfl ?_
      refine w_cmp0 he hu rfl rfl rfl (ru_ne rfl) (fun c2 => ?_) (fun c2 => ?_)
      · refine w_c he hu rfl rfl rfl rfl ?_
        exact s208 0 (by decide)
      · refine w_ld he hu rfl rfl rfl rfl rfl ?_
        refine w_gi 274441 he hu hI3 rfl rfl rfl rfl ?_
        refine w_go he hu rfl (ru_ne rfl) ?_
        exact s208 _ (gv_int (p := 274441) hI3 rfl).2.1
    refine w_ld he hu rfl rfl rfl rfl rfl ?_
    refine w_dup he hu rfl rfl rfl ?_
    refine w_gi 274474 he hu hI2 rfl rfl rfl rfl ?_
    refine w_ld he hu rfl rfl rfl rfl rfl ?_
    refine w_cmp0 he hu rfl rfl rfl (ru_ne rfl) (fun c2 => ?_) (fun c2 => ?_)
    · rw [rc_eq0 (by omega)] at c2
      have c2 := fx_beq c2
      have i1 : inc = 1 := by omega
      subst i1
      refine w_c he hu rfl rfl rfl rfl ?_
      exact s192
    · rw [rc_eq0 (by omega)] at c2
      have c2 := fx_bnq c2
      have i1 : inc = 0 := by omega
      subst i1
      refine w_c he hu rfl rfl rfl rfl ?_
      refine w_go he hu rfl (ru_ne rfl) ?_
      exact s192
  have s175 : ru l X Y B (d + 3) fm_282.1 175 [(5, fc fu), (4, fc z), (3, fc br), (2, fc nt), (1, fc bg), (0, fr 67)] [fc inc, fc (gv hx (75 * 4096 + b)), fc b, fr 75] hx (pa_post b F U0 h0 (pa_mu hx 1)) := by
    refine w_bin hu rfl rfl (fun q => by omega) ?_
    rw [rop_add (by omega)]
    have eb := rb_small (x := gv hx (75 * 4096 + b) + inc) (by omega)
    refine w_ast (q := (2147483648, 2147483708)) he hu hI rfl rfl rfl rfl (by omega) (by rw [show b % ([(2147483648, 2147483708)] : List (Nat × Nat)).length = 0 by show b % 1 = 0; omega]; rfl) (by omega) (by omega) (by simp only; omega) (fun h2 u2 hI2 => ?_)
    exact s177 h2 hI2 u2
  refine w_ld he hu rfl rfl rfl rfl rfl ?_
  refine w_cmp0 he hu rfl rfl rfl (ru_ne rfl) (fun c2 => ?_) (fun c2 => ?_)
  · rw [rc_eq0 (by omega)] at c2
    have c2 := fx_beq c2
    have i1 : inc = 1 := by omega
    subst i1
    refine w_c he hu rfl rfl rfl rfl ?_
    exact s175
  · rw [rc_eq0 (by omega)] at c2
    have c2 := fx_bnq c2
    have i1 : inc = 0 := by omega
    subst i1
    refine w_c he hu rfl rfl rfl rfl ?_
    refine w_go he hu rfl (ru_ne rfl) ?_
    exact s175
/-- from the unit's flags on -/
theorem ut_mid (he : ai_env X B) {b F U0 : Nat} (hb : b < 2) (hF1 : 560 * b ≤ F) (hF2 : F ≤ 560 * b + 9 * U0) {h0 h : fx_H} {nt br z fu bg : Nat} (h1 : pa_I b F U0 h0 h 1) (hg : gv h 274436 = 0) (hpd : 1 ≤ gv h 274473) (hnt : nt < 2) (hbr : br < 2) (hz : z = 0 ∨ (97 ≤ z ∧ z ≤ 122)) (hfu : fu < 2) (hfu0 : fu = 0 → gv h (75 * 4096 + b) ≠ 60 ∧ gv h 274474 ≠ 30) : ru l X Y B (d + 3) fm_282.1 100 [(5, fc fu), (4, fc z), (3, fc br), (2, fc nt), (1, fc bg), (0, fr 67)] [] h (pa_post b F U0 h0 (pa_mu h 1)) := by
  have hu := hu_282
  have h1' := h1
  obtain ⟨hI, g2, g3, g4, g5, g6⟩ := h1
  obtain ⟨-, -, wi7⟩ := gv_nat (p := 274472) (lo := 0) (hi := 7) hI rfl (by decide)
  obtain ⟨-, -, tk5⟩ := gv_nat (p := 274440) (lo := 0) (hi := 5) hI rfl (by decide)
  have bad : ru l X Y B (d + 3) fm_282.1 143 [(5, fc fu), (4, fc z), (3, fc br), (2, fc nt), (1, fc bg), (0, fr 67)] [] h (pa_post b F U0 h0 (pa_mu h 1)) := by
    refine w_ld he hu rfl rfl rfl rfl rfl ?_
    refine w_callM he hu hI rfl rfl rfl rfl (mp_met he hI) (fun v h2 q => ?_)
    obtain ⟨rfl, hI2, q1, q2⟩ := q
    refine w_ld he hu rfl rfl rfl rfl rfl ?_
    refine w_callM he hu hI2 rfl rfl rfl rfl (gd_met he hI2) (fun v h3 q => ?_)
    obtain ⟨rfl, q⟩ := q
    rcases q with ⟨rfl, q⟩ | ⟨rfl, q⟩
    case inl => exact absurd q q1
    refine w_cmp0 he hu rfl rfl rfl (ru_ne rfl) (fun c1 => by cases c1) (fun c1 => ?_)
    refine w_c he hu rfl rfl rfl rfl ?_
    have e1 : gv h3 274439 = gv h 274439 := gv_fr (q2 _ rfl rfl)
    exact w_iret he hu rfl rfl ⟨1, rfl, by decide, 1, h1'.tok hb hI2 (ai_fr_of q2 (by decide)) (by omega), fun q => absurd q q1⟩
  -- not or a bracket wants room within
  have s126 : nt = 1 ∨ fu = 0 → ru l X Y B (d + 3) fm_282.1 126 [(5, fc fu), (4, fc z), (3, fc br), (2, fc nt), (1, fc bg), (0, fr 67)] [] h (pa_post b F U0 h0 (pa_mu h 1)) := fun hq => by
    have s134 : nt = 1 ∨ br = 1 → ru l X Y B (d + 3) fm_282.1 134 [(5, fc fu), (4, fc z), (3, fc br), (2, fc nt), (1, fc bg), (0, fr 67)] [] h (pa_post b F U0 h0 (pa_mu h 1)) := fun hq2 => by
      refine w_ld he hu rfl rfl rfl rfl rfl ?_
      refine w_gi 274472 he hu hI rfl rfl rfl rfl ?_
      refine w_c he hu rfl rfl rfl rfl ?_
      refine w_cmp he hu rfl rfl rfl (ru_ne rfl) (fun c1 => ?_) (fun c1 => bad)
      rw [rc_ne (by omega) (by omega)] at c1
      have c1 := bb_ne c1
      refine ut_rest he hb hF1 hF2 h1' hg hpd hnt hbr hz ?_
      by_cases h1 : nt = 1
      · exact Or.inl ⟨h1, c1⟩
      · obtain ⟨k1, k2⟩ := hfu0 (by omega)
        exact Or.inr ⟨by omega, k1, k2, fun _ => c1⟩
    refine w_ld he hu rfl rfl rfl rfl rfl ?_
    refine w_cmp0 he hu rfl rfl rfl (ru_ne rfl) (fun c1 => ?_) (fun c1 => ?_)
    · rw [rc_ne0 (by omega)] at c1
      have c1 := bb_ne c1
      exact s134 (Or.inl (by omega))
    · rw [rc_ne0 (by omega)] at c1
      have c1 := bb_eq c1
      refine w_ld he hu rfl rfl rfl rfl rfl ?_
      refine w_cmp0 he hu rfl rfl rfl (ru_ne rfl) (fun c2 => ?_) (fun c2 => ?_)
      · rw [rc_eq0 (by omega)] at c2
        have c2 := fx_beq c2
        obtain ⟨k1, k2⟩ := hfu0 (by omega)
        exact ut_rest he hb hF1 hF2 h1' hg hpd hnt hbr hz (Or.inr ⟨c1, k1, k2, fun q => by omega⟩)
      · rw [rc_eq0 (by omega)] at c2
        have c2 := fx_bnq c2
        exact s134 (Or.inr (by omega))
  have s121 : ru l X Y B (d + 3) fm_282.1 121 [(5, fc fu), (4, fc z), (3, fc br), (2, fc nt), (1, fc bg), (0, fr 67)] [] h (pa_post b F U0 h0 (pa_mu h 1)) := by
    refine w_ld he hu rfl rfl rfl rfl rfl ?_
    refine w_cmp0 he hu rfl rfl rfl (ru_ne rfl) (fun c1 => bad) (fun c1 => ?_)
    rw [rc_ne0 (by omega)] at c1
    have c1 := bb_eq c1
    exact s126 (Or.inr c1)
  refine w_ld he hu rfl rfl rfl rfl rfl ?_
  refine w_cmp0 he hu rfl rfl rfl (ru_ne rfl) (fun c1 => ?_) (fun c1 => ?_)
  · rw [rc_ne0 (by omega)] at c1
    have c1 := bb_ne c1
    exact s126 (Or.inl (by omega))
  refine w_ld he hu rfl rfl rfl rfl rfl ?_
  refine w_cmp0 he hu rfl rfl rfl (ru_ne rfl) (fun c2 => s121) (fun c2 => ?_)
  refine w_ld he hu rfl rfl rfl rfl rfl ?_
  refine w_gi 274440 he hu hI rfl rfl rfl rfl ?_
  refine w_c he hu rfl rfl rfl rfl ?_
  refine w_cmp he hu rfl rfl rfl (ru_ne rfl) (fun c3 => s121) (fun c3 => ?_)
  refine w_ld he hu rfl rfl rfl rfl rfl ?_
  exact w_cmp0 he hu rfl rfl rfl (ru_ne rfl) (fun c4 => bad) (fun c4 => s121)
theorem ut_met (he : ai_env X B) {b F U0 : Nat} (hb : b < 2) (hF1 : 560 * b ≤ F) (hF2 : F ≤ 560 * b + 9 * U0) {h0 h : fx_H} (h1 : pa_I b F U0 h0 h 1) (hg : gv h 274436 = 0) (hpd : 1 ≤ gv h 274473) : rx_met l X Y B 282 (d + 3) [fr 67] h (pa_post b F U0 h0 (pa_mu h 1)) := by
  refine ru_met (M := fm_282) rfl rfl (by simp [fm_282]) ?_
  have hu := hu_282
  have h1' := h1
  obtain ⟨hI, g2, g3, g4, g5, g6⟩ := h1
  obtain ⟨-, -, pd90⟩ := gv_nat (p := 274473) (lo := 0) (hi := 90) hI rfl (by decide)
  obtain ⟨-, -, un60⟩ := gv_nat (p := 75 * 4096 + b) (lo := 0) (hi := 60) hI (by rcases (by omega : b = 0 ∨ b = 1) with rfl | rfl <;> rfl) (by decide)
  obtain ⟨-, -, u30⟩ := gv_nat (p := 274474) (lo := 0) (hi := 30) hI rfl (by decide)
  -- from the second flag on
  have s56 : ∀ bg nt, nt < 2 → ru l X Y B (d + 3) fm_282.1 56 [(1, fc bg), (0, fr 67)] [fc nt] h (pa_post b F U0 h0 (pa_mu h 1)) := fun bg nt hnt => by
    refine w_st he hu rfl rfl rfl rfl ?_
    refine w_ld he hu rfl rfl rfl rfl rfl ?_
    refine w_c he hu rfl rfl rfl rfl ?_
    refine w_callM he hu hI rfl rfl rfl rfl (sh_met he hI (by decide)) (fun v h2 q => ?_)
    obtain ⟨rfl, q⟩ := q
    obtain ⟨br, hbr, rfl⟩ : ∃ br, br < 2 ∧ v = some (fc br) := by
      rcases q with ⟨rfl, -⟩ | rfl
      · exact ⟨1, by decide, rfl⟩
      · exact ⟨0, by decide, rfl⟩
    refine w_st he hu rfl rfl rfl rfl ?_
    refine w_ld he hu rfl rfl rfl rfl rfl ?_
    refine w_callM he hu hI rfl rfl rfl rfl (wd_met he hI) (fun v h3 q => ?_)
    obtain ⟨rfl, z, rfl, hz⟩ := q
    refine w_st he hu rfl rfl rfl rfl ?_
    have s98 : ∀ fu, fu < 2 → (fu = 0 → gv h3 (75 * 4096 + b) ≠ 60 ∧ gv h3 274474 ≠ 30) → ru l X Y B (d + 3) fm_282.1 98 [(4, fc z), (3, fc br), (2, fc nt), (1, fc bg), (0, fr 67)] [fc fu] h3 (pa_post b F U0 h0 (pa_mu h3 1)) := fun fu f1 f2 => by
      refine w_st he hu rfl rfl rfl rfl ?_
      exact ut_mid he hb hF1 hF2 h1' hg hpd hnt hbr hz f1 f2
    refine w_ld he hu rfl rfl rfl rfl rfl ?_
    refine w_gr 274448 75 he hu hI rfl rfl rfl rfl ?_
    refine w_ld he hu rfl rfl rfl rfl rfl ?_
    refine w_gi 274470 he hu hI rfl rfl rfl rfl ?_
    rw [g2]
    refine w_ald he hu hI rfl rfl rfl rfl (by omega) ?_
    refine w_c he hu rfl rfl rfl rfl ?_
    refine w_cmp he hu rfl rfl rfl (ru_ne rfl) (fun c1 => ?_) (fun c1 => ?_)
    · refine w_c he hu rfl rfl rfl rfl ?_
      refine w_go he hu rfl (ru_ne rfl) ?_
      exact s98 1 (by decide) (fun q => by cases q)
    rw [ai_con0, rb_small (by omega), rb_small (by omega)] at c1
    have c1 := fx_bnq c1
    refine w_ld he hu rfl rfl rfl rfl rfl ?_
    refine w_gi 274474 he hu hI rfl rfl rfl rfl ?_
    refine w_c he hu rfl rfl rfl rfl ?_
    refine w_cmp he hu rfl rfl rfl (ru_ne rfl) (fun c2 => ?_) (fun c2 => ?_)
    · rw [rc_ne (by omega) (by omega)] at c2
      have c2 := bb_ne c2
      refine w_c he hu rfl rfl rfl rfl ?_
      exact s98 0 (by decide) (fun _ => ⟨by omega, c2⟩)
    · refine w_c he hu rfl rfl rfl rfl ?_
      refine w_go he hu rfl (ru_ne rfl) ?_
      exact s98 1 (by decide) (fun q => by cases q)
  have s36 : ∀ bg, bg < 2 → ru l X Y B (d + 3) fm_282.1 36 [(0, fr 67)] [fc bg] h (pa_post b F U0 h0 (pa_mu h 1)) := fun bg hbg => by
    refine w_st he hu rfl rfl rfl rfl ?_
    refine w_ld he hu rfl rfl rfl rfl rfl ?_
    refine w_cmp0 he hu rfl rfl rfl (ru_ne rfl) (fun c1 => ?_) (fun c1 => ?_)
    · refine w_c he hu rfl rfl rfl rfl ?_
      exact s56 bg 0 (by decide)
    · refine w_ld he hu rfl rfl rfl rfl rfl ?_
      refine w_cl he hu rfl rfl ?_
      refine w_callM he hu hI rfl rfl rfl rfl (iw_met he hI) (fun v h2 q => ?_)
      obtain ⟨rfl, q⟩ := q
      rcases q with rfl | rfl
      · refine w_cmp0 he hu rfl rfl rfl (ru_ne rfl) (fun c2 => ?_) (fun c2 => by cases c2)
        refine w_c he hu rfl rfl rfl rfl ?_
        exact s56 bg 0 (by decide)
      · refine w_cmp0 he hu rfl rfl rfl (ru_ne rfl) (fun c2 => by cases c2) (fun c2 => ?_)
        refine w_c he hu rfl rfl rfl rfl ?_
        refine w_go he hu rfl (ru_ne rfl) ?_
        exact s56 bg 1 (by decide)
  refine w_ld he hu rfl rfl rfl rfl rfl ?_
  refine w_gr 274466 93 he hu hI rfl rfl rfl rfl ?_
  refine w_ld he hu rfl rfl rfl rfl rfl ?_
  refine w_gi 274473 he hu hI rfl rfl rfl rfl ?_
  refine w_c he hu rfl rfl rfl rfl ?_
  refine w_bin hu rfl rfl (fun q => by omega) ?_
  rw [rop_sub (by omega) (by omega)]
  refine w_ald he hu hI rfl rfl rfl rfl (by omega) ?_
  refine w_c he hu rfl rfl rfl rfl ?_
  refine w_cmp he hu rfl rfl rfl (ru_ne rfl) (fun c1 => ?_) (fun c1 => ?_)
  · refine w_c he hu rfl rfl rfl rfl ?_
    refine w_go he hu rfl (ru_ne rfl) ?_
    exact s36 1 (by decide)
  refine w_ld he hu rfl rfl rfl rfl rfl ?_
  refine w_gr 274466 93 he hu hI rfl rfl rfl rfl ?_
  refine w_ld he hu rfl rfl rfl rfl rfl ?_
  refine w_gi 274473 he hu hI rfl rfl rfl rfl ?_
  refine w_c he hu rfl rfl rfl rfl ?_
  refine w_bin hu rfl rfl (fun q => by omega) ?_
  rw [rop_sub (by omega) (by omega)]
  refine w_ald he hu hI rfl rfl rfl rfl (by omega) ?_
  refine w_c he hu rfl rfl rfl rfl ?_
  refine w_cmp he hu rfl rfl rfl (ru_ne rfl) (fun c2 => ?_) (fun c2 => ?_)
  · refine w_c he hu rfl rfl rfl rfl ?_
    exact s36 0 (by decide)
  · refine w_c he hu rfl rfl rfl rfl ?_
    refine w_go he hu rfl (ru_ne rfl) ?_
    exact s36 1 (by decide)
end UU
