section BV
variable {l : Launch} {X : fx_X} {Y : fx_Y} {B : fx_B} {d : Nat}
/-- those that bind tighter become codes -/
theorem bu_loop (he : ai_env X B) {b F U0 m z : Nat} (hb : b < 2) (hF1 : 560 * b ≤ F) (hF2 : F ≤ 560 * b + 9 * U0) {h0 : fx_H} : ∀ c h, gv h 274473 = c → pa_I b F U0 h0 h 0 → 1 ≤ c → (z = 0 ∨ z = 1 ∨ z = 2 ∨ ((z = 4 ∨ z = 5 ∨ z = 6) ∧ mo_js (mo_sg h (gv h 274438)))) → pa_mu h 0 ≤ m → ru l X Y B (d + 3) fm_283.1 23 [(1, fc z), (0, fr 67)] [] h (pa_post b F U0 h0 m) := by
  have hu := hu_283
  intro c
  induction c with
  | zero => intro h _ _ q; omega
  | succ c ih =>
    intro h hc h1 _ hz hm
    have hend : 6 < gv h (93 * 4096 + c) ∨ gv h (93 * 4096 + c) < z → ru l X Y B (d + 3) fm_283.1 104 [(1, fc z), (0, fr 67)] [] h (pa_post b F U0 h0 m) := fun q => bu_end he hb hF1 hF2 h1 (by omega) hz (by rw [hc, Nat.add_sub_cancel]; exact q) hm
    obtain ⟨w8, s255, pd90⟩ := pa_what h1 (k := c) (by omega)
    have h1' := h1
    obtain ⟨hI, g2, g3, g4, g5, g6⟩ := h1
    have gp := g6
    obtain ⟨p1, p2, p3, p4, p5, p6, p7, p8, p9, p10, p11, p12, p13, p14⟩ := g6
    have n13 := p13 rfl
    obtain ⟨-, -, un60⟩ := gv_nat (p := 75 * 4096 + b) (lo := 0) (hi := 60) hI (by rcases (by omega : b = 0 ∨ b = 1) with rfl | rfl <;> rfl) (by decide)
    obtain ⟨-, -, wi7⟩ := gv_nat (p := 274472) (lo := 0) (hi := 7) hI rfl (by decide)
    obtain ⟨-, -, at16⟩ := gv_nat (p := 274438) (lo := 0) (hi := 1600) hI rfl (by decide)
    refine w_ld he hu rfl rfl rfl rfl rfl ?_
    refine w_gr 274466 93 he hu hI rfl rfl rfl rfl ?_
    refine w_ld he hu rfl rfl rfl rfl rfl ?_
    refine w_gi 274473 he hu hI rfl rfl rfl rfl ?_
    refine w_c he hu rfl rfl rfl rfl ?_
    refine w_bin hu rfl rfl (fun q => by omega) ?_
    rw [hc, rop_sub (by omega) (by omega), Nat.add_sub_cancel]
    refine w_ald he hu hI rfl rfl rfl rfl (by omega) ?_
    refine w_c he hu rfl rfl rfl rfl ?_
    refine w_cmp he hu rfl rfl rfl (ru_ne rfl) (fun c1 => ?_) (fun c1 => ?_)
    · rw [rc_gt (by omega) (by omega)] at c1
      exact hend (Or.inl (fx_blt c1))
    rw [rc_gt (by omega) (by omega)] at c1
    have c1 := fx_nlt c1
    refine w_ld he hu rfl rfl rfl rfl rfl ?_
    refine w_gr 274466 93 he hu hI rfl rfl rfl rfl ?_
    refine w_ld he hu rfl rfl rfl rfl rfl ?_
    refine w_gi 274473 he hu hI rfl rfl rfl rfl ?_
    refine w_c he hu rfl rfl rfl rfl ?_
    refine w_bin hu rfl rfl (fun q => by omega) ?_
    rw [hc, rop_sub (by omega) (by omega), Nat.add_sub_cancel]
    refine w_ald he hu hI rfl rfl rfl rfl (by omega) ?_
    refine w_ld he hu rfl rfl rfl rfl rfl ?_
    refine w_cmp he hu rfl rfl rfl (ru_ne rfl) (fun c2 => ?_) (fun c2 => ?_)
    · rw [rc_lt (by omega) (by omega)] at c2
      exact hend (Or.inr (fx_blt c2))
    have c0 : c ≠ 0 := fun q => by
      have := p5 (by omega)
      rw [q] at c1
      have e : gv h (93 * 4096 + 0) = 8 := this
      omega
    refine w_ld he hu rfl rfl rfl rfl rfl ?_
    refine w_dup he hu rfl rfl rfl ?_
    refine w_gi 274473 he hu hI rfl rfl rfl rfl ?_
    refine w_c he hu rfl rfl rfl rfl ?_
    refine w_bin hu rfl rfl (fun q => by omega) ?_
    rw [hc, rop_sub (by omega) (by omega), Nat.add_sub_cancel]
    have ep := rb_small (x := c) (by omega)
    refine w_pi 274473 he hu hI rfl rfl rfl rfl (by omega) (by omega) (by omega) (fun h2 u2 hI2 => ?_)
    have ar2 : ∀ r i, r ≠ 67 → i < 4096 → gv h2 (r * 4096 + i) = gv h (r * 4096 + i) := fun r i hr hi => u2.off (by omega)
    refine w_ld he hu rfl rfl rfl rfl rfl ?_
    refine w_gr 274466 93 he hu hI2 rfl rfl rfl rfl ?_
    refine w_ld he hu rfl rfl rfl rfl rfl ?_
    refine w_gi 274473 he hu hI2 rfl rfl rfl rfl ?_
    rw [u2.at]
    refine w_ald he hu hI2 rfl rfl rfl rfl (by omega) ?_
    rw [ar2 93 c (by decide) (by omega)]
    refine w_c he hu rfl rfl rfl rfl ?_
    -- the code, whatever became of within
    have s87 : ∀ h3 wi', ai_inv ai_T0 h3 → gv h3 274472 = wi' → wi' + pa_en (gv h (93 * 4096 + c)) = gv h 274472 → ai_fr ([274472], []) h2 h3 → ru l X Y B (d + 3) fm_283.1 87 [(1, fc z), (0, fr 67)] [] h3 (pa_post b F U0 h0 m) := fun h3 wi' hI3 i1 i2 i3 => by
      have f3 : ∀ p, ai_mem [274472] p = false → gv h3 p = gv h2 p := fun p a => gv_fr (i3 p a rfl)
      have ar3 : ∀ r i, r ≠ 67 → i < 4096 → gv h3 (r * 4096 + i) = gv h (r * 4096 + i) := fun r i hr hi => (fld_arr (by decide) i3 hr hi).trans (ar2 r i hr hi)
      have e3 : gv h3 274473 = c := (f3 _ rfl).trans u2.at
      have e4 : gv h3 274471 = gv h 274471 := (f3 _ rfl).trans (u2.off (by decide))
      refine w_ld he hu rfl rfl rfl rfl rfl ?_
      refine w_ld he hu rfl rfl rfl rfl rfl ?_
      refine w_gr 274467 94 he hu hI3 rfl rfl rfl rfl ?_
      refine w_ld he hu rfl rfl rfl rfl rfl ?_
      refine w_gi 274473 he hu hI3 rfl rfl rfl rfl ?_
      rw [e3]
      refine w_ald he hu hI3 rfl rfl rfl rfl (by omega) ?_
      rw [ar3 94 c (by decide) (by omega)]
      refine w_c he hu rfl rfl rfl rfl ?_
      refine w_callM he hu hI3 rfl rfl rfl rfl (em_met he hI3 (c := gv h (94 * 4096 + c)) (n := 0) s255 (by decide) (by omega)) (fun v h4 q => ?_)
      obtain ⟨rfl, hI4, q1, q2, q3, q4⟩ := q
      rw [e4] at q1 q2 q3
      have f4 : ∀ p, ai_mem [274471] p = false → ai_mem [91, 92] (p / 4096) = false → gv h4 p = gv h3 p := fun p a b => gv_fr (q4 p a b)
      have ar4 : ∀ r i, (r = 75 ∨ r = 93 ∨ r = 94) → i < 4096 → gv h4 (r * 4096 + i) = gv h (r * 4096 + i) := fun r i hr hi => (f4 _ (mo_mem_no (fun y hy e => by
        have : y = 274471 := by simpa using hy
        omega)) (by rw [ai_p1 hi]; rcases hr with rfl | rfl | rfl <;> rfl)).trans (ar3 r i (by omega) hi)
      have rc : ∀ k, k < 4096 → k ≠ gv h 274471 → mo_code h4 k = mo_code h k := fun k hk hne => (q3 k hk hne).trans (ar3 91 k (by decide) hk)
      have key : pa_p F U0 (gv h 274471 + 1) (gv h (75 * 4096 + b)) (gv h 274474) c wi' (fun k => gv h (93 * 4096 + k)) (fun k => gv h (94 * 4096 + k)) (mo_code h4) 0 := by
        rw [hc] at gp
        exact pa_pop gp c0 c1 (fun k _ k2 => rc k (by omega) (by omega)) q2 i2
      have b1 : gv h4 274473 = c := (f4 _ rfl rfl).trans e3
      have b2 : gv h4 274474 = gv h 274474 := (f4 _ rfl rfl).trans ((f3 _ rfl).trans (u2.off (by decide)))
      have b3 : gv h4 274472 = wi' := (f4 _ rfl rfl).trans i1
      have I4 : pa_I b F U0 h0 h4 0 := by
        refine ⟨hI4, (f4 _ rfl rfl).trans ((f3 _ rfl).trans ((u2.off (by decide)).trans g2)), by rw [f4 _ rfl rfl, f3 _ rfl, u2.off (by decide)]; exact g3, ai_fr_trans g4 (ai_fr_trans (u2.fr (Or.inl rfl)) (ai_fr_trans (ai_fr_of i3 (by decide)) (ai_fr_of q4 (by decide)))), fun k k1 k2 => by rw [rc k (by omega) (by omega)]; exact g5 k k1 k2, ?_⟩
        rw [q1, b1, b2, b3, ar4 75 b (Or.inl rfl) (by omega)]
        exact pa_ext key (fun k hk => ar4 93 k (Or.inr (Or.inl rfl)) (by omega)) (fun k hk => ar4 94 k (Or.inr (Or.inr rfl)) (by omega)) (fun _ _ _ => rfl)
      refine w_go he hu rfl (ru_ne rfl) ?_
      have fr4 : ai_fr ([274471, 274472, 274473], [91, 92]) h h4 := ai_fr_trans (u2.fr (Or.inl rfl)) (ai_fr_trans (ai_fr_of i3 (by decide)) (ai_fr_of q4 (by decide)))
      refine ih h4 b1 I4 (by omega) ?_ ?_
      · rw [mo_sg_fr (by omega) fr4 (by decide)]
        exact hz
      · unfold pa_mu at hm ⊢
        rw [if_neg (by decide)] at hm ⊢
        rw [b1, b2]
        omega
    refine w_cmp he hu rfl rfl rfl (ru_ne rfl) (fun c3 => ?_) (fun c3 => ?_)
    · rw [rc_ne (by omega) (by omega)] at c3
      have c3 := bb_ne c3
      refine s87 h2 (gv h 274472) hI2 (u2.off (by decide)) ?_ ai_fr_refl
      rw [show pa_en (gv h (93 * 4096 + c)) = 0 from if_neg c3]
      rfl
    · rw [rc_ne (by omega) (by omega)] at c3
      have c3 := bb_eq c3
      have en1 : pa_en (gv h (93 * 4096 + c)) = 1 := if_pos c3
      have wi1 : 1 ≤ gv h 274472 := by
        rw [p8, hc]
        have : pa_cnt pa_en (fun k => gv h (93 * 4096 + k)) (c + 1) = pa_cnt pa_en (fun k => gv h (93 * 4096 + k)) c + pa_en (gv h (93 * 4096 + c)) := rfl
        omega
      refine w_ld he hu rfl rfl rfl rfl rfl ?_
      refine w_dup he hu rfl rfl rfl ?_
      refine w_gi 274472 he hu hI2 rfl rfl rfl rfl ?_
      refine w_c he hu rfl rfl rfl rfl ?_
      refine w_bin hu rfl rfl (fun q => by omega) ?_
      have e3 : gv h2 274472 = gv h 274472 := u2.off (by decide)
      rw [e3, rop_sub (by omega) (by omega)]
      have ew := rb_small (x := gv h 274472 - 1) (by omega)
      refine w_pi 274472 he hu hI2 rfl rfl rfl rfl (by omega) (by omega) (by omega) (fun h3 u3 hI3 => ?_)
      exact s87 h3 (gv h 274472 - 1) hI3 u3.at (by omega) (u3.fr (Or.inl rfl))
theorem bu_met (he : ai_env X B) {b F U0 : Nat} (hb : b < 2) (hF1 : 560 * b ≤ F) (hF2 : F ≤ 560 * b + 9 * U0) {h0 h : fx_H} (h1 : pa_I b F U0 h0 h 0) (hpd : 1 ≤ gv h 274473) : rx_met l X Y B 283 (d + 3) [fr 67] h (pa_post b F U0 h0 (pa_mu h 0)) := by
  refine ru_met (M := fm_283) rfl rfl (by simp [fm_283]) ?_
  have hu := hu_283
  have h1' := h1
  obtain ⟨hI, g2, g3, g4, g5, g6⟩ := h1
  obtain ⟨-, -, pd90⟩ := gv_nat (p := 274473) (lo := 0) (hi := 90) hI rfl (by decide)
  refine w_ld he hu rfl rfl rfl rfl rfl ?_
  refine w_callM he hu hI rfl rfl rfl rfl (rk_met he hI) (fun v h2 q => ?_)
  obtain ⟨rfl, z, rfl, hz⟩ := q
  refine w_st he hu rfl rfl rfl rfl ?_
  have s23 : ru l X Y B (d + 3) fm_283.1 23 [(1, fc z), (0, fr 67)] [] h2 (pa_post b F U0 h0 (pa_mu h2 0)) := bu_loop he hb hF1 hF2 _ h2 rfl h1' hpd hz (Nat.le_refl _)
  refine w_ld he hu rfl rfl rfl rfl rfl ?_
  refine w_c he hu rfl rfl rfl rfl ?_
  refine w_cmp he hu rfl rfl rfl (ru_ne rfl) (fun c1 => s23) (fun c1 => ?_)
  refine w_ld he hu rfl rfl rfl rfl rfl ?_
  refine w_callM he hu hI rfl rfl rfl rfl (cp_met he hI (g6.2.2.2.2.1 hpd) hpd pd90) (fun v h3 q => ?_)
  obtain ⟨rfl, q⟩ := q
  rcases q with rfl | rfl
  · exact w_cmp0 he hu rfl rfl rfl (ru_ne rfl) (fun c2 => s23) (fun c2 => by cases c2)
  · refine w_cmp0 he hu rfl rfl rfl (ru_ne rfl) (fun c2 => by cases c2) (fun c2 => ?_)
    refine w_ld he hu rfl rfl rfl rfl rfl ?_
    refine w_callM he hu hI rfl rfl rfl rfl (mp_met he hI) (fun v h4 q => ?_)
    obtain ⟨rfl, hI4, q1, q2⟩ := q
    refine w_c he hu rfl rfl rfl rfl ?_
    have e1 : gv h4 274439 = gv h3 274439 := gv_fr (q2 _ rfl rfl)
    exact w_iret he hu rfl rfl ⟨1, rfl, by decide, 0, h1'.tok hb hI4 (ai_fr_of q2 (by decide)) (by omega), fun q => absurd q q1⟩
end BV
